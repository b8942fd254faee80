/-! both: ask -/
def lkL (f : Nat → Int) (i g n : Nat) : Int := nx yes (upF f (7 * i + 3) g) n (7 * i + 1)
theorem lkL_in {f : Nat → Int} (h : WF f) {i : Nat} (hi : (i : Int) < f 35) {g : Nat} (hg : g < 10) (n : Nat) : 0 ≤ lkL f i g n ∧ lkL f i g n ≤ 99 := by
  have h35 := h.1
  exact q_in (h.setT hi (Or.inr rfl) (n := g) hg) (by rw [upF_n _ _ (by omega)]; exact hi) n
theorem RG.wo {μ : Mem} {B : Nat} {f : Nat → Int} (h : RG μ B f) (h35 : f 35 ≤ 5) {k : Nat} (hk : k < B ∨ B + 6 < k) (j : Nat) (v : Int) : RG (wI μ k j v) B f := by
  obtain ⟨r1, r2, r3, r4, r5, r6⟩ := h
  refine ⟨r1.of (fun _ => rfl), by rw [rI_wI, if_neg (by omega)]; exact r2, by rw [rI_wI, if_neg (by omega)]; exact r3, by rw [rI_wI, if_neg (by omega)]; exact r4, by rw [rI_wI, if_neg (by omega)]; exact r5, fun i t hi ht => ?_⟩
  have := r1.1 i (by omega)
  rw [rR_wI, rI_wI, if_neg (by omega)]
  exact r6 i t hi ht
def askJ (f : Nat → Int) (i : Nat) (n : Nat) : Int × Int := jd (fun n => (n : Int)) (wst (fitV f i 3) (lkL f i)) (cntP (fitV f i 3) 10 : Nat) n
theorem askJ_s (f : Nat → Int) (i n : Nat) : askJ f i (n + 1) = if wst (fitV f i 3) (lkL f i) n < (askJ f i n).2 then ((n : Int), wst (fitV f i 3) (lkL f i) n) else askJ f i n := rfl
theorem askJ_in (f : Nat → Int) (i : Nat) (n : Nat) (hn : n ≤ 41) : (-4 ≤ (askJ f i n).1 ∧ (askJ f i n).1 ≤ 41) ∧ (0 ≤ (askJ f i n).2 ∧ (askJ f i n).2 ≤ 10) := by
  have hj := jd_rg (c := fun n => (n : Int)) (u := wst (fitV f i 3) (lkL f i)) (b := (cntP (fitV f i 3) 10 : Nat)) (lo := 0) (hi := 10) (lc := 0) (hc := 41) (fun n => by show (n : Int) ≠ -4; omega) n (fun k _ => wst_in _ _ _) (fun k hk => ⟨by show 0 ≤ (k : Int); omega, by show (k : Int) ≤ 41; omega⟩)
  have hc := cntP_le (fitV f i 3) 10
  unfold askJ
  by_cases z : (jd (fun n => (n : Int)) (wst (fitV f i 3) (lkL f i)) (cntP (fitV f i 3) 10 : Nat) n).1 = -4
  · have := (hj.1 z).1
    omega
  · have := hj.2 z
    omega
def askR (f : Nat → Int) (i w : Int) : Int := if (0 ≤ i ∧ i < f 35) ∧ 0 ≤ w ∧ w ≤ 1 then jdA (askJ f i.toNat 41) w else -1
def GL_X5_lookAhead : List (Nat × Nat × Bool × TT) := [(156, 4, false, T5_startTrialWith), (140, 2, false, T1_visit)]
def G_X5_lookAhead : Nat → Option (Nat × Bool × TT) := fun i => GL_X5_lookAhead.lookup i
theorem G_X5_lookAhead_156 : G_X5_lookAhead 156 = some (4, false, T5_startTrialWith) := rfl
theorem G_X5_lookAhead_140 : G_X5_lookAhead 140 = some (2, false, T1_visit) := rfl

set_option maxRecDepth 20000 in
set_option maxHeartbeats 4000000 in
theorem lp_look1 (V : Nat → List (Option AV) → List AV → Mem → Prop) (K : List AV → Mem → Prop) (hV : Clos FX5 CX5 G_X5_lookAhead 0 K cX5_lookAhead V) (μ : Mem) (f : Nat → Int) (hW : WF f) (h38 : f 38 ≤ 9999) (p : Nat → Bool) (i : Nat) (hi : (i : Int) < f 35) (g : Nat) (hg : g < 10) (l : Int) (hK : ∀ ν, FQ μ ν → LK ν p (lkL f i) (g + 1) → V 69 [some (.inr (.inr 0)), some (.inl (i : Int)), some (.inl l), some (.inl (g : Int)), some (.inl 41)] [] ν) : ∀ m n : Nat, n + m = 41 → ∀ ν, FQ μ ν → LK ν p (lkL f i) g → RG ν 8 (nx yes (upF f (7 * i + 3) g) n) → (∀ a, a < n → rI ν (56 + g) a = lkL f i g a) → V 27 [some (.inr (.inr 0)), some (.inl (i : Int)), some (.inl l), some (.inl (g : Int)), some (.inl (n : Int))] [] ν := by
  have h35 := hW.1
  have hW2 := hW.setT hi (Or.inr rfl) (n := g) hg
  have e35 : upF f (7 * i + 3) (g : Int) 35 = f 35 := upF_n _ _ (by omega)
  have e38 : upF f (7 * i + 3) (g : Int) 38 = f 38 := upF_n _ _ (by omega)
  obtain ⟨k7g, l41⟩ := lkk g hg
  obtain ⟨k12, l5, k7⟩ := ringk kd_8
  intro m
  induction m with
  | zero =>
    intro n hn ν hF hL hR hq
    have en : n = 41 := by omega
    subst en
    have hk := hK ν hF (fun g' a hg' ha hp => by
      by_cases e : g' = g
      · subst e; exact hq a (by omega)
      · exact hL g' a (by omega) ha hp)
    apply hV [27, 69] 20
    simp only [InR, InL, inb, Int.toNat_natCast, wp1, wpc_z, wpc_s, stp_iconst, stp_bipush, stp_sipush, stp_lconst, stp_iload_n, stp_iload, stp_lload_n, stp_lload, stp_aload_n, stp_aload, stp_istore_n, stp_istore, stp_lstore_n, stp_lstore, stp_astore_n, stp_astore, stp_iinc, stp_iadd, stp_isub, stp_imul, stp_ineg, stp_idiv, stp_irem, stp_ladd, stp_lmul, stp_ldiv, stp_lrem, stp_ishl, stp_ishr, stp_iushr, stp_iand, stp_ior, stp_i2l, stp_i2b, stp_i2s, stp_lcmp, stp_dup, stp_dup2, stp_pop, stp_ifCond, stp_if_icmp, stp_goto, stp_tableswitch, stp_lookupswitch, stp_ldc, stp_ldc_w, stp_ldc2_w, stp_getstatic, stp_getfield, stp_putfield, stp_iaload, stp_baload, stp_iastore, stp_bastore, stp_aaload, stp_aastore, stp_invokevirtual, stp_invokestatic, stp_ireturn, stp_lreturn, stp_return_, lg, lset, okl, spl, wd, c1, cnd, tg, swT, swL, f4_0, f4_1, f4_2, f4_3, f2_0, f2_1, List.mem_cons, List.not_mem_nil, List.length_cons, List.length_nil, List.cons_append, List.nil_append, Nat.reduceAdd, Nat.reduceMul, Nat.reduceLT, Nat.reduceEqDiff, Nat.reduceLeDiff, Int.reduceAdd, Int.reduceNeg, Int.reduceToNat, Int.cast_ofNat_Int, Int.reduceNatCast, Int.toNat_zero, Int.toNat_one, Int.reduceLE, Int.reduceLT, Int.reduceEq, Int.zero_add, Int.add_zero, or_false, false_or, or_true, true_or, and_true, true_and, and_false, false_and, reduceIte, not_true_eq_false, not_false_eq_true, forall_const, false_implies, true_implies, implies_true, ne_eq, reduceCtorEq, List.all_cons, List.all_nil, Bool.and_true, Bool.and_self, decide_eq_true_eq, decide_true, dX5_lookAhead_0, dX5_lookAhead_1, dX5_lookAhead_2, dX5_lookAhead_3, dX5_lookAhead_5, dX5_lookAhead_8, dX5_lookAhead_9, dX5_lookAhead_10, dX5_lookAhead_11, dX5_lookAhead_12, dX5_lookAhead_13, dX5_lookAhead_14, dX5_lookAhead_17, dX5_lookAhead_18, dX5_lookAhead_19, dX5_lookAhead_20, dX5_lookAhead_21, dX5_lookAhead_24, dX5_lookAhead_25, dX5_lookAhead_27, dX5_lookAhead_29, dX5_lookAhead_31, dX5_lookAhead_34, dX5_lookAhead_35, dX5_lookAhead_38, dX5_lookAhead_39, dX5_lookAhead_40, dX5_lookAhead_42, dX5_lookAhead_43, dX5_lookAhead_46, dX5_lookAhead_49, dX5_lookAhead_50, dX5_lookAhead_51, dX5_lookAhead_52, dX5_lookAhead_53, dX5_lookAhead_54, dX5_lookAhead_55, dX5_lookAhead_58, dX5_lookAhead_59, dX5_lookAhead_62, dX5_lookAhead_63, dX5_lookAhead_66, dX5_lookAhead_69, dX5_lookAhead_72, dX5_lookAhead_75, FX5_47, FX5_16, FX5_115, G_X5_lookAhead_156, G_X5_lookAhead_140]
    repeat' (first | exact trivial | omega | (with_reducible assumption) | exact absurd trivial (by with_reducible assumption) | contradiction | apply And.intro | intro _)
  | succ m ih =>
    intro n hn ν hF hL hR hq
    obtain ⟨x1, x2, x3⟩ := nx_WF (p := yes) hW2 n
    have hr : 10 ≤ rR ν 9 i ∧ rR ν 9 i ≤ 14 := hR.1.1 i (by omega)
    obtain ⟨c1, c2⟩ := k7 _ hr.1 hr.2
    have ee : el ν 9 i = rR ν 9 i := elr (B := 8) k12 i
    have v1 : rI ν (rR ν 9 i) 1 = lkL f i g n := hR.row (by rw [x3, e35]; exact hi) (by omega)
    have hFw : FQ ν (wI ν (56 + g) n (lkL f i g n)) := ⟨fun k hk j => by rw [rI_wI, if_neg (by omega)], fun _ _ _ => rfl, hF.2.2.of (fun _ => rfl)⟩
    have hRw := hR.wo (k := 56 + g) (by rw [x3, e35]; exact h35.2) (by omega) n (lkL f i g n)
    have key : ∀ ρ, VR (wI ν (56 + g) n (lkL f i g n)) ρ 8 (nx yes (upF f (7 * i + 3) g) n) true → V 27 [some (.inr (.inr 0)), some (.inl (i : Int)), some (.inl l), some (.inl (g : Int)), some (.inl ((n : Int) + 1))] [] ρ := by
      intro ρ hρ
      obtain ⟨b1, b2, b3, b4⟩ := hρ
      have hF2 : FQ μ ρ := (hF.tr hFw).tr (b4.q hFw.2.2)
      have h := ih (n + 1) (by omega) ρ hF2 (fun g' a hg' ha hp => by
        rw [b4.1 _ (by omega), rI_wI, if_neg (by omega)]
        exact hL g' a hg' ha hp) b1 (fun a ha => by
        rw [b4.1 _ (by omega), rI_wI]
        by_cases e : a = n
        · rw [if_pos ⟨rfl, e⟩, e]
        · rw [if_neg (fun z => e z.2)]; exact hq a (by omega))
      rw [show ((n + 1 : Nat) : Int) = (n : Int) + 1 by omega] at h
      exact h
    apply hV [27, 69] 40
    simp only [InR, InL, inb, Int.toNat_natCast, wp1, wpc_z, wpc_s, stp_iconst, stp_bipush, stp_sipush, stp_lconst, stp_iload_n, stp_iload, stp_lload_n, stp_lload, stp_aload_n, stp_aload, stp_istore_n, stp_istore, stp_lstore_n, stp_lstore, stp_astore_n, stp_astore, stp_iinc, stp_iadd, stp_isub, stp_imul, stp_ineg, stp_idiv, stp_irem, stp_ladd, stp_lmul, stp_ldiv, stp_lrem, stp_ishl, stp_ishr, stp_iushr, stp_iand, stp_ior, stp_i2l, stp_i2b, stp_i2s, stp_lcmp, stp_dup, stp_dup2, stp_pop, stp_ifCond, stp_if_icmp, stp_goto, stp_tableswitch, stp_lookupswitch, stp_ldc, stp_ldc_w, stp_ldc2_w, stp_getstatic, stp_getfield, stp_putfield, stp_iaload, stp_baload, stp_iastore, stp_bastore, stp_aaload, stp_aastore, stp_invokevirtual, stp_invokestatic, stp_ireturn, stp_lreturn, stp_return_, lg, lset, okl, spl, wd, c1, cnd, tg, swT, swL, f4_0, f4_1, f4_2, f4_3, f2_0, f2_1, List.mem_cons, List.not_mem_nil, List.length_cons, List.length_nil, List.cons_append, List.nil_append, Nat.reduceAdd, Nat.reduceMul, Nat.reduceLT, Nat.reduceEqDiff, Nat.reduceLeDiff, Int.reduceAdd, Int.reduceNeg, Int.reduceToNat, Int.cast_ofNat_Int, Int.reduceNatCast, Int.toNat_zero, Int.toNat_one, Int.reduceLE, Int.reduceLT, Int.reduceEq, Int.zero_add, Int.add_zero, or_false, false_or, or_true, true_or, and_true, true_and, and_false, false_and, reduceIte, not_true_eq_false, not_false_eq_true, forall_const, false_implies, true_implies, implies_true, ne_eq, reduceCtorEq, List.all_cons, List.all_nil, Bool.and_true, Bool.and_self, decide_eq_true_eq, decide_true, dX5_lookAhead_0, dX5_lookAhead_1, dX5_lookAhead_2, dX5_lookAhead_3, dX5_lookAhead_5, dX5_lookAhead_8, dX5_lookAhead_9, dX5_lookAhead_10, dX5_lookAhead_11, dX5_lookAhead_12, dX5_lookAhead_13, dX5_lookAhead_14, dX5_lookAhead_17, dX5_lookAhead_18, dX5_lookAhead_19, dX5_lookAhead_20, dX5_lookAhead_21, dX5_lookAhead_24, dX5_lookAhead_25, dX5_lookAhead_27, dX5_lookAhead_29, dX5_lookAhead_31, dX5_lookAhead_34, dX5_lookAhead_35, dX5_lookAhead_38, dX5_lookAhead_39, dX5_lookAhead_40, dX5_lookAhead_42, dX5_lookAhead_43, dX5_lookAhead_46, dX5_lookAhead_49, dX5_lookAhead_50, dX5_lookAhead_51, dX5_lookAhead_52, dX5_lookAhead_53, dX5_lookAhead_54, dX5_lookAhead_55, dX5_lookAhead_58, dX5_lookAhead_59, dX5_lookAhead_62, dX5_lookAhead_63, dX5_lookAhead_66, dX5_lookAhead_69, dX5_lookAhead_72, dX5_lookAhead_75, FX5_47, FX5_16, FX5_115, G_X5_lookAhead_156, G_X5_lookAhead_140, kd_0, kd_8, kd_9, ln_9, kd_55, ln_55, el_55, k7g, l41, ee, c1, c2, v1, T1_visit]
    repeat' (first | exact trivial | omega | (with_reducible assumption) | exact absurd trivial (by with_reducible assumption) | contradiction | apply And.intro | intro _)
    all_goals exact ⟨nx yes (upF f (7 * i + 3) g) n, true, hRw, x1, by omega, by simp, fun ρ hρ => ⟨trivial, key ρ hρ⟩⟩
set_option maxRecDepth 20000 in
set_option maxHeartbeats 4000000 in
theorem lp_look2 (V : Nat → List (Option AV) → List AV → Mem → Prop) (K : List AV → Mem → Prop) (hV : Clos FX5 CX5 G_X5_lookAhead 0 K cX5_lookAhead V) (μ : Mem) (f : Nat → Int) (hW : WF f) (h38 : f 38 ≤ 9999) (p : Nat → Bool) (i : Nat) (hi : (i : Int) < f 35) (hR : RG μ 1 f) (hK : ∀ ν, FQ μ ν ∧ LK ν p (lkL f i) 10 → K [] ν) : ∀ m k : Nat, k + m = 10 → ∀ ν, FQ μ ν → LK ν p (lkL f i) k → ∀ y : Option AV, V 2 [some (.inr (.inr 0)), some (.inl (i : Int)), some (.inl ((bitsN p 10 : Nat) : Int)), some (.inl (k : Int)), y] [] ν := by
  have h35 := hW.1
  have hb := bitsN_b p 10 (by omega)
  have em := bm_id (a := ((bitsN p 10 : Nat) : Int)) ⟨by omega, by omega⟩
  intro m
  induction m with
  | zero =>
    intro k hk ν hF hL y
    have ek : k = 10 := by omega
    subst ek
    have hk := hK ν ⟨hF, hL⟩
    apply hV [2] 20
    simp only [InR, InL, inb, Int.toNat_natCast, wp1, wpc_z, wpc_s, stp_iconst, stp_bipush, stp_sipush, stp_lconst, stp_iload_n, stp_iload, stp_lload_n, stp_lload, stp_aload_n, stp_aload, stp_istore_n, stp_istore, stp_lstore_n, stp_lstore, stp_astore_n, stp_astore, stp_iinc, stp_iadd, stp_isub, stp_imul, stp_ineg, stp_idiv, stp_irem, stp_ladd, stp_lmul, stp_ldiv, stp_lrem, stp_ishl, stp_ishr, stp_iushr, stp_iand, stp_ior, stp_i2l, stp_i2b, stp_i2s, stp_lcmp, stp_dup, stp_dup2, stp_pop, stp_ifCond, stp_if_icmp, stp_goto, stp_tableswitch, stp_lookupswitch, stp_ldc, stp_ldc_w, stp_ldc2_w, stp_getstatic, stp_getfield, stp_putfield, stp_iaload, stp_baload, stp_iastore, stp_bastore, stp_aaload, stp_aastore, stp_invokevirtual, stp_invokestatic, stp_ireturn, stp_lreturn, stp_return_, lg, lset, okl, spl, wd, c1, cnd, tg, swT, swL, f4_0, f4_1, f4_2, f4_3, f2_0, f2_1, List.mem_cons, List.not_mem_nil, List.length_cons, List.length_nil, List.cons_append, List.nil_append, Nat.reduceAdd, Nat.reduceMul, Nat.reduceLT, Nat.reduceEqDiff, Nat.reduceLeDiff, Int.reduceAdd, Int.reduceNeg, Int.reduceToNat, Int.cast_ofNat_Int, Int.reduceNatCast, Int.toNat_zero, Int.toNat_one, Int.reduceLE, Int.reduceLT, Int.reduceEq, Int.zero_add, Int.add_zero, or_false, false_or, or_true, true_or, and_true, true_and, and_false, false_and, reduceIte, not_true_eq_false, not_false_eq_true, forall_const, false_implies, true_implies, implies_true, ne_eq, reduceCtorEq, List.all_cons, List.all_nil, Bool.and_true, Bool.and_self, decide_eq_true_eq, decide_true, dX5_lookAhead_0, dX5_lookAhead_1, dX5_lookAhead_2, dX5_lookAhead_3, dX5_lookAhead_5, dX5_lookAhead_8, dX5_lookAhead_9, dX5_lookAhead_10, dX5_lookAhead_11, dX5_lookAhead_12, dX5_lookAhead_13, dX5_lookAhead_14, dX5_lookAhead_17, dX5_lookAhead_18, dX5_lookAhead_19, dX5_lookAhead_20, dX5_lookAhead_21, dX5_lookAhead_24, dX5_lookAhead_25, dX5_lookAhead_27, dX5_lookAhead_29, dX5_lookAhead_31, dX5_lookAhead_34, dX5_lookAhead_35, dX5_lookAhead_38, dX5_lookAhead_39, dX5_lookAhead_40, dX5_lookAhead_42, dX5_lookAhead_43, dX5_lookAhead_46, dX5_lookAhead_49, dX5_lookAhead_50, dX5_lookAhead_51, dX5_lookAhead_52, dX5_lookAhead_53, dX5_lookAhead_54, dX5_lookAhead_55, dX5_lookAhead_58, dX5_lookAhead_59, dX5_lookAhead_62, dX5_lookAhead_63, dX5_lookAhead_66, dX5_lookAhead_69, dX5_lookAhead_72, dX5_lookAhead_75, FX5_47, FX5_16, FX5_115, G_X5_lookAhead_156, G_X5_lookAhead_140]
    repeat' (first | exact trivial | omega | (with_reducible assumption) | exact absurd trivial (by with_reducible assumption) | contradiction | apply And.intro | intro _)
  | succ m ih =>
    intro k hk ν hF hL y
    have eb := bits_i p k 10 (by omega)
    have key := fun ρ hF2 hL2 y => ih (k + 1) (by omega) ρ hF2 hL2 y
    rw [show ((k + 1 : Nat) : Int) = (k : Int) + 1 by omega] at key
    by_cases z : p k = true
    · rw [if_pos z] at eb
      have hR1 := hF.ring hR h35.2
      have main : ∀ ρ, RG ρ 8 (upF f (7 * i + 3) k) ∧ rI ρ 8 5 = 0 ∧ rI ρ 8 6 = 0 ∧ FR 8 ν ρ → V 27 [some (.inr (.inr 0)), some (.inl (i : Int)), some (.inl ((bitsN p 10 : Nat) : Int)), some (.inl (k : Int)), some (.inl 0)] [] ρ := by
        intro ρ hρ
        obtain ⟨a1, a2, a3, a4⟩ := hρ
        exact lp_look1 V K hV μ f hW h38 p i hi k (by omega) _ (fun σ hF3 hL3 => by
          have kk := key σ hF3 hL3 (some (.inl 41))
          apply hV [2] 10
          simp only [InR, InL, inb, Int.toNat_natCast, wp1, wpc_z, wpc_s, stp_iconst, stp_bipush, stp_sipush, stp_lconst, stp_iload_n, stp_iload, stp_lload_n, stp_lload, stp_aload_n, stp_aload, stp_istore_n, stp_istore, stp_lstore_n, stp_lstore, stp_astore_n, stp_astore, stp_iinc, stp_iadd, stp_isub, stp_imul, stp_ineg, stp_idiv, stp_irem, stp_ladd, stp_lmul, stp_ldiv, stp_lrem, stp_ishl, stp_ishr, stp_iushr, stp_iand, stp_ior, stp_i2l, stp_i2b, stp_i2s, stp_lcmp, stp_dup, stp_dup2, stp_pop, stp_ifCond, stp_if_icmp, stp_goto, stp_tableswitch, stp_lookupswitch, stp_ldc, stp_ldc_w, stp_ldc2_w, stp_getstatic, stp_getfield, stp_putfield, stp_iaload, stp_baload, stp_iastore, stp_bastore, stp_aaload, stp_aastore, stp_invokevirtual, stp_invokestatic, stp_ireturn, stp_lreturn, stp_return_, lg, lset, okl, spl, wd, c1, cnd, tg, swT, swL, f4_0, f4_1, f4_2, f4_3, f2_0, f2_1, List.mem_cons, List.not_mem_nil, List.length_cons, List.length_nil, List.cons_append, List.nil_append, Nat.reduceAdd, Nat.reduceMul, Nat.reduceLT, Nat.reduceEqDiff, Nat.reduceLeDiff, Int.reduceAdd, Int.reduceNeg, Int.reduceToNat, Int.cast_ofNat_Int, Int.reduceNatCast, Int.toNat_zero, Int.toNat_one, Int.reduceLE, Int.reduceLT, Int.reduceEq, Int.zero_add, Int.add_zero, or_false, false_or, or_true, true_or, and_true, true_and, and_false, false_and, reduceIte, not_true_eq_false, not_false_eq_true, forall_const, false_implies, true_implies, implies_true, ne_eq, reduceCtorEq, List.all_cons, List.all_nil, Bool.and_true, Bool.and_self, decide_eq_true_eq, decide_true, dX5_lookAhead_0, dX5_lookAhead_1, dX5_lookAhead_2, dX5_lookAhead_3, dX5_lookAhead_5, dX5_lookAhead_8, dX5_lookAhead_9, dX5_lookAhead_10, dX5_lookAhead_11, dX5_lookAhead_12, dX5_lookAhead_13, dX5_lookAhead_14, dX5_lookAhead_17, dX5_lookAhead_18, dX5_lookAhead_19, dX5_lookAhead_20, dX5_lookAhead_21, dX5_lookAhead_24, dX5_lookAhead_25, dX5_lookAhead_27, dX5_lookAhead_29, dX5_lookAhead_31, dX5_lookAhead_34, dX5_lookAhead_35, dX5_lookAhead_38, dX5_lookAhead_39, dX5_lookAhead_40, dX5_lookAhead_42, dX5_lookAhead_43, dX5_lookAhead_46, dX5_lookAhead_49, dX5_lookAhead_50, dX5_lookAhead_51, dX5_lookAhead_52, dX5_lookAhead_53, dX5_lookAhead_54, dX5_lookAhead_55, dX5_lookAhead_58, dX5_lookAhead_59, dX5_lookAhead_62, dX5_lookAhead_63, dX5_lookAhead_66, dX5_lookAhead_69, dX5_lookAhead_72, dX5_lookAhead_75, FX5_47, FX5_16, FX5_115, G_X5_lookAhead_156, G_X5_lookAhead_140]
          repeat' (first | exact trivial | omega | (with_reducible assumption) | exact absurd trivial (by with_reducible assumption) | contradiction | apply And.intro | intro _)) 41 0 (by omega) ρ (hF.tr (a4.q hF.2.2)) (fun g' a hg' ha hp => by rw [a4.1 _ (by omega)]; exact hL g' a hg' ha hp) a1 (fun a ha => by omega)
      have fin : RP ν 8 ∧ (0 ≤ (3 : Int) ∧ (3 : Int) < 7) ∧ 0 ≤ (i : Int) ∧ ∃ f, RG ν 1 f ∧ (i : Int) < f 35 ∧ f 35 ≤ 5 ∧ ∀ ρ, RG ρ 8 (upF f (7 * i + 3) k) ∧ rI ρ 8 5 = 0 ∧ rI ρ 8 6 = 0 ∧ FR 8 ν ρ → V 27 [some (.inr (.inr 0)), some (.inl (i : Int)), some (.inl ((bitsN p 10 : Nat) : Int)), some (.inl (k : Int)), some (.inl 0)] [] ρ := ⟨hF.2.2, by omega, by omega, f, hR1, hi, h35.2, main⟩
      obtain ⟨g1, g2, g3, g4⟩ := fin
      clear main key hK
      apply hV [2, 27] 40
      simp only [InR, InL, inb, Int.toNat_natCast, wp1, wpc_z, wpc_s, stp_iconst, stp_bipush, stp_sipush, stp_lconst, stp_iload_n, stp_iload, stp_lload_n, stp_lload, stp_aload_n, stp_aload, stp_istore_n, stp_istore, stp_lstore_n, stp_lstore, stp_astore_n, stp_astore, stp_iinc, stp_iadd, stp_isub, stp_imul, stp_ineg, stp_idiv, stp_irem, stp_ladd, stp_lmul, stp_ldiv, stp_lrem, stp_ishl, stp_ishr, stp_iushr, stp_iand, stp_ior, stp_i2l, stp_i2b, stp_i2s, stp_lcmp, stp_dup, stp_dup2, stp_pop, stp_ifCond, stp_if_icmp, stp_goto, stp_tableswitch, stp_lookupswitch, stp_ldc, stp_ldc_w, stp_ldc2_w, stp_getstatic, stp_getfield, stp_putfield, stp_iaload, stp_baload, stp_iastore, stp_bastore, stp_aaload, stp_aastore, stp_invokevirtual, stp_invokestatic, stp_ireturn, stp_lreturn, stp_return_, lg, lset, okl, spl, wd, c1, cnd, tg, swT, swL, f4_0, f4_1, f4_2, f4_3, f2_0, f2_1, List.mem_cons, List.not_mem_nil, List.length_cons, List.length_nil, List.cons_append, List.nil_append, Nat.reduceAdd, Nat.reduceMul, Nat.reduceLT, Nat.reduceEqDiff, Nat.reduceLeDiff, Int.reduceAdd, Int.reduceNeg, Int.reduceToNat, Int.cast_ofNat_Int, Int.reduceNatCast, Int.toNat_zero, Int.toNat_one, Int.reduceLE, Int.reduceLT, Int.reduceEq, Int.zero_add, Int.add_zero, or_false, false_or, or_true, true_or, and_true, true_and, and_false, false_and, reduceIte, not_true_eq_false, not_false_eq_true, forall_const, false_implies, true_implies, implies_true, ne_eq, reduceCtorEq, List.all_cons, List.all_nil, Bool.and_true, Bool.and_self, decide_eq_true_eq, decide_true, dX5_lookAhead_0, dX5_lookAhead_1, dX5_lookAhead_2, dX5_lookAhead_3, dX5_lookAhead_5, dX5_lookAhead_8, dX5_lookAhead_9, dX5_lookAhead_10, dX5_lookAhead_11, dX5_lookAhead_12, dX5_lookAhead_13, dX5_lookAhead_14, dX5_lookAhead_17, dX5_lookAhead_18, dX5_lookAhead_19, dX5_lookAhead_20, dX5_lookAhead_21, dX5_lookAhead_24, dX5_lookAhead_25, dX5_lookAhead_27, dX5_lookAhead_29, dX5_lookAhead_31, dX5_lookAhead_34, dX5_lookAhead_35, dX5_lookAhead_38, dX5_lookAhead_39, dX5_lookAhead_40, dX5_lookAhead_42, dX5_lookAhead_43, dX5_lookAhead_46, dX5_lookAhead_49, dX5_lookAhead_50, dX5_lookAhead_51, dX5_lookAhead_52, dX5_lookAhead_53, dX5_lookAhead_54, dX5_lookAhead_55, dX5_lookAhead_58, dX5_lookAhead_59, dX5_lookAhead_62, dX5_lookAhead_63, dX5_lookAhead_66, dX5_lookAhead_69, dX5_lookAhead_72, dX5_lookAhead_75, FX5_47, FX5_16, FX5_115, G_X5_lookAhead_156, G_X5_lookAhead_140, kd_0, em, eb, T5_startTrialWith]
      clear em eb
      repeat' (first | exact trivial | omega | (with_reducible assumption) | exact absurd trivial (by with_reducible assumption) | contradiction | apply And.intro | intro _)
    · rw [if_neg z] at eb
      have kk := key ν hF (fun g' a hg' ha hp => by
        by_cases e : g' = k
        · subst e; exact absurd hp z
        · exact hL g' a (by omega) ha hp) y
      apply hV [2, 27] 40
      simp only [InR, InL, inb, Int.toNat_natCast, wp1, wpc_z, wpc_s, stp_iconst, stp_bipush, stp_sipush, stp_lconst, stp_iload_n, stp_iload, stp_lload_n, stp_lload, stp_aload_n, stp_aload, stp_istore_n, stp_istore, stp_lstore_n, stp_lstore, stp_astore_n, stp_astore, stp_iinc, stp_iadd, stp_isub, stp_imul, stp_ineg, stp_idiv, stp_irem, stp_ladd, stp_lmul, stp_ldiv, stp_lrem, stp_ishl, stp_ishr, stp_iushr, stp_iand, stp_ior, stp_i2l, stp_i2b, stp_i2s, stp_lcmp, stp_dup, stp_dup2, stp_pop, stp_ifCond, stp_if_icmp, stp_goto, stp_tableswitch, stp_lookupswitch, stp_ldc, stp_ldc_w, stp_ldc2_w, stp_getstatic, stp_getfield, stp_putfield, stp_iaload, stp_baload, stp_iastore, stp_bastore, stp_aaload, stp_aastore, stp_invokevirtual, stp_invokestatic, stp_ireturn, stp_lreturn, stp_return_, lg, lset, okl, spl, wd, c1, cnd, tg, swT, swL, f4_0, f4_1, f4_2, f4_3, f2_0, f2_1, List.mem_cons, List.not_mem_nil, List.length_cons, List.length_nil, List.cons_append, List.nil_append, Nat.reduceAdd, Nat.reduceMul, Nat.reduceLT, Nat.reduceEqDiff, Nat.reduceLeDiff, Int.reduceAdd, Int.reduceNeg, Int.reduceToNat, Int.cast_ofNat_Int, Int.reduceNatCast, Int.toNat_zero, Int.toNat_one, Int.reduceLE, Int.reduceLT, Int.reduceEq, Int.zero_add, Int.add_zero, or_false, false_or, or_true, true_or, and_true, true_and, and_false, false_and, reduceIte, not_true_eq_false, not_false_eq_true, forall_const, false_implies, true_implies, implies_true, ne_eq, reduceCtorEq, List.all_cons, List.all_nil, Bool.and_true, Bool.and_self, decide_eq_true_eq, decide_true, dX5_lookAhead_0, dX5_lookAhead_1, dX5_lookAhead_2, dX5_lookAhead_3, dX5_lookAhead_5, dX5_lookAhead_8, dX5_lookAhead_9, dX5_lookAhead_10, dX5_lookAhead_11, dX5_lookAhead_12, dX5_lookAhead_13, dX5_lookAhead_14, dX5_lookAhead_17, dX5_lookAhead_18, dX5_lookAhead_19, dX5_lookAhead_20, dX5_lookAhead_21, dX5_lookAhead_24, dX5_lookAhead_25, dX5_lookAhead_27, dX5_lookAhead_29, dX5_lookAhead_31, dX5_lookAhead_34, dX5_lookAhead_35, dX5_lookAhead_38, dX5_lookAhead_39, dX5_lookAhead_40, dX5_lookAhead_42, dX5_lookAhead_43, dX5_lookAhead_46, dX5_lookAhead_49, dX5_lookAhead_50, dX5_lookAhead_51, dX5_lookAhead_52, dX5_lookAhead_53, dX5_lookAhead_54, dX5_lookAhead_55, dX5_lookAhead_58, dX5_lookAhead_59, dX5_lookAhead_62, dX5_lookAhead_63, dX5_lookAhead_66, dX5_lookAhead_69, dX5_lookAhead_72, dX5_lookAhead_75, FX5_47, FX5_16, FX5_115, G_X5_lookAhead_156, G_X5_lookAhead_140, kd_0, em, eb]
      clear em eb
      repeat' (first | exact trivial | omega | (with_reducible assumption) | exact absurd trivial (by with_reducible assumption) | contradiction | apply And.intro | intro _)
def T5_lookAhead : TT := fun a μ K => match a with
  | [.inr (.inr o), .inl i, .inl l] => o = 0 ∧ (∃ i' : Nat, i = i' ∧ RP μ 8 ∧ ∃ (f : Nat → Int) (p : Nat → Bool), l = ((bitsN p 10 : Nat) : Int) ∧ RG μ 1 f ∧ WF f ∧ f 38 ≤ 9999 ∧ (i' : Int) < f 35 ∧ ∀ ν, FQ μ ν ∧ LK ν p (lkL f i') 10 → K [] ν)
  | _ => False
theorem rec_X5_lookAhead : ∀ a μ K, T5_lookAhead a μ K → ∃ k r, a = .inr (.inr k) :: r ∧ kd k = 5 := by
  intro a μ K h
  unfold T5_lookAhead at h
  split at h
  · exact ⟨_, _, rfl, by rw [h.1]; rfl⟩
  · exact h.elim
theorem gk_X5_lookAhead (l : Launch) : ∀ i n b T, G_X5_lookAhead i = some (n, b, T) → CallOK l 4 RX5 i n b T := by
  intro i n b T h
  have hm : (i, n, b, T) ∈ GL_X5_lookAhead := lk_mem h
  simp only [GL_X5_lookAhead, List.mem_cons, List.not_mem_nil, or_false, Prod.mk.injEq] at hm
  rcases hm with ⟨rfl, rfl, rfl, rfl⟩ | ⟨rfl, rfl, rfl, rfl⟩
  · exact CallOK.V (d := 4) (own := RX5) (i := 156) (n := 3) (ci := 5) (good_X5_startTrialWith l) (by decide) (by decide) rfl (by decide) rec_X5_startTrialWith (mg 430 (by decide +kernel) (by decide +kernel)) (mg 432 (by decide +kernel) (by decide +kernel)) (mgs 14 (by decide +kernel) (by decide +kernel)) (mg 1 (by decide +kernel) (by decide +kernel)) (mg 433 (by decide +kernel) (by decide +kernel)) (by decide +kernel)
  · exact CallOK.V (d := 4) (own := RX5) (i := 140) (n := 1) (ci := 1) (good_X1_visit l) (by decide) (by decide) rfl (by decide) rec_X1_visit (mg 392 (by decide +kernel) (by decide +kernel)) (mg 393 (by decide +kernel) (by decide +kernel)) (mg 394 (by decide +kernel) (by decide +kernel)) (mg 2 (by decide +kernel) (by decide +kernel)) (mg 395 (by decide +kernel) (by decide +kernel)) (by decide +kernel)
set_option maxRecDepth 20000 in
set_option maxHeartbeats 4000000 in
theorem body_X5_lookAhead (o : Nat) (i : Int) (l : Int) (μ : Mem) (K : List AV → Mem → Prop) (V : Nat → List (Option AV) → List AV → Mem → Prop) (hV : Clos FX5 CX5 G_X5_lookAhead 0 K cX5_lookAhead V) (hT : o = 0 ∧ (∃ i' : Nat, i = i' ∧ RP μ 8 ∧ ∃ (f : Nat → Int) (p : Nat → Bool), l = ((bitsN p 10 : Nat) : Int) ∧ RG μ 1 f ∧ WF f ∧ f 38 ≤ 9999 ∧ (i' : Int) < f 35 ∧ ∀ ν, FQ μ ν ∧ LK ν p (lkL f i') 10 → K [] ν)) : V 0 [some (.inr (.inr o)), some (.inl i), some (.inl l), none, none] [] μ := by
  obtain ⟨rfl, i', rfl, hP, f, p, rfl, hR, hW, h38, hi, hK⟩ := hT
  have h := lp_look2 V K hV μ f hW h38 p i' hi hR hK 10 0 (by omega) μ (FQ.rf hP) (fun g n hg _ _ => by omega) none
  apply hV [2] 20
  simp only [InR, InL, inb, Int.toNat_natCast, wp1, wpc_z, wpc_s, stp_iconst, stp_bipush, stp_sipush, stp_lconst, stp_iload_n, stp_iload, stp_lload_n, stp_lload, stp_aload_n, stp_aload, stp_istore_n, stp_istore, stp_lstore_n, stp_lstore, stp_astore_n, stp_astore, stp_iinc, stp_iadd, stp_isub, stp_imul, stp_ineg, stp_idiv, stp_irem, stp_ladd, stp_lmul, stp_ldiv, stp_lrem, stp_ishl, stp_ishr, stp_iushr, stp_iand, stp_ior, stp_i2l, stp_i2b, stp_i2s, stp_lcmp, stp_dup, stp_dup2, stp_pop, stp_ifCond, stp_if_icmp, stp_goto, stp_tableswitch, stp_lookupswitch, stp_ldc, stp_ldc_w, stp_ldc2_w, stp_getstatic, stp_getfield, stp_putfield, stp_iaload, stp_baload, stp_iastore, stp_bastore, stp_aaload, stp_aastore, stp_invokevirtual, stp_invokestatic, stp_ireturn, stp_lreturn, stp_return_, lg, lset, okl, spl, wd, c1, cnd, tg, swT, swL, f4_0, f4_1, f4_2, f4_3, f2_0, f2_1, List.mem_cons, List.not_mem_nil, List.length_cons, List.length_nil, List.cons_append, List.nil_append, Nat.reduceAdd, Nat.reduceMul, Nat.reduceLT, Nat.reduceEqDiff, Nat.reduceLeDiff, Int.reduceAdd, Int.reduceNeg, Int.reduceToNat, Int.cast_ofNat_Int, Int.reduceNatCast, Int.toNat_zero, Int.toNat_one, Int.reduceLE, Int.reduceLT, Int.reduceEq, Int.zero_add, Int.add_zero, or_false, false_or, or_true, true_or, and_true, true_and, and_false, false_and, reduceIte, not_true_eq_false, not_false_eq_true, forall_const, false_implies, true_implies, implies_true, ne_eq, reduceCtorEq, List.all_cons, List.all_nil, Bool.and_true, Bool.and_self, decide_eq_true_eq, decide_true, dX5_lookAhead_0, dX5_lookAhead_1, dX5_lookAhead_2, dX5_lookAhead_3, dX5_lookAhead_5, dX5_lookAhead_8, dX5_lookAhead_9, dX5_lookAhead_10, dX5_lookAhead_11, dX5_lookAhead_12, dX5_lookAhead_13, dX5_lookAhead_14, dX5_lookAhead_17, dX5_lookAhead_18, dX5_lookAhead_19, dX5_lookAhead_20, dX5_lookAhead_21, dX5_lookAhead_24, dX5_lookAhead_25, dX5_lookAhead_27, dX5_lookAhead_29, dX5_lookAhead_31, dX5_lookAhead_34, dX5_lookAhead_35, dX5_lookAhead_38, dX5_lookAhead_39, dX5_lookAhead_40, dX5_lookAhead_42, dX5_lookAhead_43, dX5_lookAhead_46, dX5_lookAhead_49, dX5_lookAhead_50, dX5_lookAhead_51, dX5_lookAhead_52, dX5_lookAhead_53, dX5_lookAhead_54, dX5_lookAhead_55, dX5_lookAhead_58, dX5_lookAhead_59, dX5_lookAhead_62, dX5_lookAhead_63, dX5_lookAhead_66, dX5_lookAhead_69, dX5_lookAhead_72, dX5_lookAhead_75, FX5_47, FX5_16, FX5_115, G_X5_lookAhead_156, G_X5_lookAhead_140]
  exact h
theorem good_X5_lookAhead (l : Launch) : Good l 4 yX5_lookAhead cX5_lookAhead 5 none T5_lookAhead := by
  refine Good.mk 0 (by decide) rfl (by simp [retOK]) FOK5 COK5 (gk_X5_lookAhead l) ?_ ?_
  · intro a μ K h
    unfold T5_lookAhead at h
    split at h
    · simp [entl]
    · exact h.elim
  · intro a μ K V hV h
    unfold T5_lookAhead at h
    split at h
    · exact body_X5_lookAhead _ _ _ μ K V hV h
    · exact h.elim

def GL_X5_ask : List (Nat × Nat × Bool × TT) := [(111, 2, false, T1_has), (52, 3, true, T5_isOutside), (175, 3, false, T5_fitting), (178, 3, false, T5_lookAhead), (181, 1, true, T_bit), (186, 3, false, T5_worstLeft)]
def G_X5_ask : Nat → Option (Nat × Bool × TT) := fun i => GL_X5_ask.lookup i
theorem G_X5_ask_111 : G_X5_ask 111 = some (2, false, T1_has) := rfl
theorem G_X5_ask_52 : G_X5_ask 52 = some (3, true, T5_isOutside) := rfl
theorem G_X5_ask_175 : G_X5_ask 175 = some (3, false, T5_fitting) := rfl
theorem G_X5_ask_178 : G_X5_ask 178 = some (3, false, T5_lookAhead) := rfl
theorem G_X5_ask_181 : G_X5_ask 181 = some (1, true, T_bit) := rfl
theorem G_X5_ask_186 : G_X5_ask 186 = some (3, false, T5_worstLeft) := rfl

set_option maxRecDepth 20000 in
set_option maxHeartbeats 4000000 in
theorem lp_ask (V : Nat → List (Option AV) → List AV → Mem → Prop) (K : List AV → Mem → Prop) (hV : Clos FX5 CX5 G_X5_ask 1 K cX5_ask V) (ν : Mem) (f : Nat → Int) (hW : WF f) (i : Nat) (hi : (i : Int) < f 35) (w : Int) (hw : 0 ≤ w ∧ w ≤ 1) (hL : LK ν (fitV f i 3) (lkL f i) 10) (hK : K [.inl (jdA (askJ f i 41) w)] ν) : ∀ m n : Nat, n + m = 41 → ∀ q : Int × Int, q = askJ f i n → ∀ x : Option AV, V 48 [some (.inr (.inr 0)), some (.inl (i : Int)), some (.inl w), some (.inl ((bitsN (fitV f i 3) 10 : Nat) : Int)), some (.inl q.2), some (.inl q.1), some (.inl (n : Int)), x] [] ν := by
  intro m
  induction m with
  | zero =>
    intro n hn q hq x
    have en : n = 41 := by omega
    subst en
    have hj := askJ_in f i 41 (by omega)
    rw [← hq] at hK hj
    unfold jdA at hK
    apply hV [48] 30
    simp only [InR, InL, inb, Int.toNat_natCast, wp1, wpc_z, wpc_s, stp_iconst, stp_bipush, stp_sipush, stp_lconst, stp_iload_n, stp_iload, stp_lload_n, stp_lload, stp_aload_n, stp_aload, stp_istore_n, stp_istore, stp_lstore_n, stp_lstore, stp_astore_n, stp_astore, stp_iinc, stp_iadd, stp_isub, stp_imul, stp_ineg, stp_idiv, stp_irem, stp_ladd, stp_lmul, stp_ldiv, stp_lrem, stp_ishl, stp_ishr, stp_iushr, stp_iand, stp_ior, stp_i2l, stp_i2b, stp_i2s, stp_lcmp, stp_dup, stp_dup2, stp_pop, stp_ifCond, stp_if_icmp, stp_goto, stp_tableswitch, stp_lookupswitch, stp_ldc, stp_ldc_w, stp_ldc2_w, stp_getstatic, stp_getfield, stp_putfield, stp_iaload, stp_baload, stp_iastore, stp_bastore, stp_aaload, stp_aastore, stp_invokevirtual, stp_invokestatic, stp_ireturn, stp_lreturn, stp_return_, lg, lset, okl, spl, wd, c1, cnd, tg, swT, swL, f4_0, f4_1, f4_2, f4_3, f2_0, f2_1, List.mem_cons, List.not_mem_nil, List.length_cons, List.length_nil, List.cons_append, List.nil_append, Nat.reduceAdd, Nat.reduceMul, Nat.reduceLT, Nat.reduceEqDiff, Nat.reduceLeDiff, Int.reduceAdd, Int.reduceNeg, Int.reduceToNat, Int.cast_ofNat_Int, Int.reduceNatCast, Int.toNat_zero, Int.toNat_one, Int.reduceLE, Int.reduceLT, Int.reduceEq, Int.zero_add, Int.add_zero, or_false, false_or, or_true, true_or, and_true, true_and, and_false, false_and, reduceIte, not_true_eq_false, not_false_eq_true, forall_const, false_implies, true_implies, implies_true, ne_eq, reduceCtorEq, List.all_cons, List.all_nil, Bool.and_true, Bool.and_self, decide_eq_true_eq, decide_true, dX5_ask_0, dX5_ask_1, dX5_ask_4, dX5_ask_5, dX5_ask_8, dX5_ask_11, dX5_ask_12, dX5_ask_13, dX5_ask_14, dX5_ask_17, dX5_ask_20, dX5_ask_21, dX5_ask_22, dX5_ask_23, dX5_ask_24, dX5_ask_25, dX5_ask_28, dX5_ask_29, dX5_ask_30, dX5_ask_31, dX5_ask_32, dX5_ask_35, dX5_ask_36, dX5_ask_39, dX5_ask_41, dX5_ask_43, dX5_ask_45, dX5_ask_46, dX5_ask_48, dX5_ask_50, dX5_ask_52, dX5_ask_55, dX5_ask_56, dX5_ask_57, dX5_ask_59, dX5_ask_62, dX5_ask_64, dX5_ask_66, dX5_ask_68, dX5_ask_71, dX5_ask_73, dX5_ask_75, dX5_ask_77, dX5_ask_79, dX5_ask_82, dX5_ask_85, dX5_ask_87, dX5_ask_89, dX5_ask_92, dX5_ask_93, dX5_ask_96, dX5_ask_98, dX5_ask_101, dX5_ask_103, FX5_10, G_X5_ask_111, G_X5_ask_52, G_X5_ask_175, G_X5_ask_178, G_X5_ask_181, G_X5_ask_186]
    by_cases z : q.1 = -4
    · rw [if_pos z] at hK
      rw [z]
      repeat' (first | exact trivial | omega | (with_reducible assumption) | exact absurd trivial (by with_reducible assumption) | contradiction | apply And.intro | intro _)
    · rw [if_neg z] at hK
      by_cases w0 : w = 0
      · rw [if_pos w0] at hK
        repeat' (first | exact trivial | omega | (with_reducible assumption) | exact absurd trivial (by with_reducible assumption) | contradiction | apply And.intro | intro _)
      · rw [if_neg w0] at hK
        repeat' (first | exact trivial | omega | (with_reducible assumption) | exact absurd trivial (by with_reducible assumption) | contradiction | apply And.intro | intro _)
  | succ m ih =>
    intro n hn q hq x
    have hj := askJ_in f i n (by omega)
    have hu := wst_in (fitV f i 3) (lkL f i) n
    have key := fun q hq x => ih (n + 1) (by omega) q hq x
    rw [askJ_s, ← hq, show ((n + 1 : Nat) : Int) = (n : Int) + 1 by omega] at key
    rw [← hq] at hj
    have main : ∃ (p : Nat → Bool) (L : Nat → Nat → Int) (n' : Nat), ((bitsN (fitV f i 3) 10 : Nat) : Int) = ((bitsN p 10 : Nat) : Int) ∧ (n : Int) = n' ∧ n' ≤ 40 ∧ LK ν p L 10 ∧ (∀ g, g < 10 → p g = true → 0 ≤ L g n' ∧ L g n' ≤ 99) ∧ ((-2147483648 ≤ wst p L n' ∧ wst p L n' < 2147483648) ∧ (-2147483648 ≤ q.2 ∧ q.2 < 2147483648) ∧ (q.2 ≤ wst p L n' → V 48 [some (.inr (.inr 0)), some (.inl (i : Int)), some (.inl w), some (.inl ((bitsN (fitV f i 3) 10 : Nat) : Int)), some (.inl q.2), some (.inl q.1), some (.inl ((n : Int) + 1)), some (.inl (wst p L n'))] [] ν) ∧ (¬ q.2 ≤ wst p L n' → V 48 [some (.inr (.inr 0)), some (.inl (i : Int)), some (.inl w), some (.inl ((bitsN (fitV f i 3) 10 : Nat) : Int)), some (.inl (wst p L n')), some (.inl (n : Int)), some (.inl ((n : Int) + 1)), some (.inl (wst p L n'))] [] ν)) := by
      refine ⟨fitV f i 3, lkL f i, n, rfl, rfl, by omega, hL, fun g hg _ => lkL_in hW hi hg n, by omega, by omega, fun z => ?_, fun z => ?_⟩
      · exact key q (by rw [if_neg (by omega)]) _
      · exact key ((n : Int), wst (fitV f i 3) (lkL f i) n) (by rw [if_pos (by omega)]) _
    clear key
    apply hV [48] 40
    simp only [InR, InL, inb, Int.toNat_natCast, wp1, wpc_z, wpc_s, stp_iconst, stp_bipush, stp_sipush, stp_lconst, stp_iload_n, stp_iload, stp_lload_n, stp_lload, stp_aload_n, stp_aload, stp_istore_n, stp_istore, stp_lstore_n, stp_lstore, stp_astore_n, stp_astore, stp_iinc, stp_iadd, stp_isub, stp_imul, stp_ineg, stp_idiv, stp_irem, stp_ladd, stp_lmul, stp_ldiv, stp_lrem, stp_ishl, stp_ishr, stp_iushr, stp_iand, stp_ior, stp_i2l, stp_i2b, stp_i2s, stp_lcmp, stp_dup, stp_dup2, stp_pop, stp_ifCond, stp_if_icmp, stp_goto, stp_tableswitch, stp_lookupswitch, stp_ldc, stp_ldc_w, stp_ldc2_w, stp_getstatic, stp_getfield, stp_putfield, stp_iaload, stp_baload, stp_iastore, stp_bastore, stp_aaload, stp_aastore, stp_invokevirtual, stp_invokestatic, stp_ireturn, stp_lreturn, stp_return_, lg, lset, okl, spl, wd, c1, cnd, tg, swT, swL, f4_0, f4_1, f4_2, f4_3, f2_0, f2_1, List.mem_cons, List.not_mem_nil, List.length_cons, List.length_nil, List.cons_append, List.nil_append, Nat.reduceAdd, Nat.reduceMul, Nat.reduceLT, Nat.reduceEqDiff, Nat.reduceLeDiff, Int.reduceAdd, Int.reduceNeg, Int.reduceToNat, Int.cast_ofNat_Int, Int.reduceNatCast, Int.toNat_zero, Int.toNat_one, Int.reduceLE, Int.reduceLT, Int.reduceEq, Int.zero_add, Int.add_zero, or_false, false_or, or_true, true_or, and_true, true_and, and_false, false_and, reduceIte, not_true_eq_false, not_false_eq_true, forall_const, false_implies, true_implies, implies_true, ne_eq, reduceCtorEq, List.all_cons, List.all_nil, Bool.and_true, Bool.and_self, decide_eq_true_eq, decide_true, dX5_ask_0, dX5_ask_1, dX5_ask_4, dX5_ask_5, dX5_ask_8, dX5_ask_11, dX5_ask_12, dX5_ask_13, dX5_ask_14, dX5_ask_17, dX5_ask_20, dX5_ask_21, dX5_ask_22, dX5_ask_23, dX5_ask_24, dX5_ask_25, dX5_ask_28, dX5_ask_29, dX5_ask_30, dX5_ask_31, dX5_ask_32, dX5_ask_35, dX5_ask_36, dX5_ask_39, dX5_ask_41, dX5_ask_43, dX5_ask_45, dX5_ask_46, dX5_ask_48, dX5_ask_50, dX5_ask_52, dX5_ask_55, dX5_ask_56, dX5_ask_57, dX5_ask_59, dX5_ask_62, dX5_ask_64, dX5_ask_66, dX5_ask_68, dX5_ask_71, dX5_ask_73, dX5_ask_75, dX5_ask_77, dX5_ask_79, dX5_ask_82, dX5_ask_85, dX5_ask_87, dX5_ask_89, dX5_ask_92, dX5_ask_93, dX5_ask_96, dX5_ask_98, dX5_ask_101, dX5_ask_103, FX5_10, G_X5_ask_111, G_X5_ask_52, G_X5_ask_175, G_X5_ask_178, G_X5_ask_181, G_X5_ask_186, kd_0, T5_worstLeft]
    repeat' (first | exact trivial | omega | (with_reducible assumption) | exact absurd trivial (by with_reducible assumption) | contradiction | apply And.intro | intro _)
def T5_ask : TT := fun a μ K => match a with
  | [.inr (.inr o), .inl i, .inl w] => o = 0 ∧ (InR i ∧ InR w ∧ RP μ 8 ∧ ∃ f, RG μ 1 f ∧ SG μ 15 f ∧ WF f ∧ SW f ∧ f 38 ≤ 9999 ∧ ∀ ν, FQ μ ν → K [.inl (askR f i w)] ν)
  | _ => False
theorem rec_X5_ask : ∀ a μ K, T5_ask a μ K → ∃ k r, a = .inr (.inr k) :: r ∧ kd k = 5 := by
  intro a μ K h
  unfold T5_ask at h
  split at h
  · exact ⟨_, _, rfl, by rw [h.1]; rfl⟩
  · exact h.elim
theorem gk_X5_ask (l : Launch) : ∀ i n b T, G_X5_ask i = some (n, b, T) → CallOK l 6 RX5 i n b T := by
  intro i n b T h
  have hm : (i, n, b, T) ∈ GL_X5_ask := lk_mem h
  simp only [GL_X5_ask, List.mem_cons, List.not_mem_nil, or_false, Prod.mk.injEq] at hm
  rcases hm with ⟨rfl, rfl, rfl, rfl⟩ | ⟨rfl, rfl, rfl, rfl⟩ | ⟨rfl, rfl, rfl, rfl⟩ | ⟨rfl, rfl, rfl, rfl⟩ | ⟨rfl, rfl, rfl, rfl⟩ | ⟨rfl, rfl, rfl, rfl⟩
  · exact CallOK.V (d := 6) (own := RX5) (i := 111) (n := 1) (ci := 1) (good_X1_has l) (by decide) (by decide) rfl (by decide) rec_X1_has (mg 351 (by decide +kernel) (by decide +kernel)) (mg 313 (by decide +kernel) (by decide +kernel)) (mg 314 (by decide +kernel) (by decide +kernel)) (mg 2 (by decide +kernel) (by decide +kernel)) (mg 315 (by decide +kernel) (by decide +kernel)) (by decide +kernel)
  · exact CallOK.S (d := 6) (own := RX5) (i := 52) (n := 3) (good_X5_isOutside l) (by decide) (by decide) (mg 191 (by decide +kernel) (by decide +kernel)) (mg 192 (by decide +kernel) (by decide +kernel)) (mg 1 (by decide +kernel) (by decide +kernel)) (mg 193 (by decide +kernel) (by decide +kernel)) (by decide +kernel)
  · exact CallOK.V (d := 6) (own := RX5) (i := 175) (n := 2) (ci := 5) (good_X5_fitting l) (by decide) (by decide) rfl (by decide) rec_X5_fitting (mg 492 (by decide +kernel) (by decide +kernel)) (mg 494 (by decide +kernel) (by decide +kernel)) (mgs 16 (by decide +kernel) (by decide +kernel)) (mg 1 (by decide +kernel) (by decide +kernel)) (mg 495 (by decide +kernel) (by decide +kernel)) (by decide +kernel)
  · exact CallOK.V (d := 6) (own := RX5) (i := 178) (n := 2) (ci := 5) (good_X5_lookAhead l) (by decide) (by decide) rfl (by decide) rec_X5_lookAhead (mg 519 (by decide +kernel) (by decide +kernel)) (mg 521 (by decide +kernel) (by decide +kernel)) (mgs 19 (by decide +kernel) (by decide +kernel)) (mg 1 (by decide +kernel) (by decide +kernel)) (mg 522 (by decide +kernel) (by decide +kernel)) (by decide +kernel)
  · exact CallOK.S (d := 6) (own := RX5) (i := 181) (n := 1) (good_bit l) (by decide) (by decide) (mg 523 (by decide +kernel) (by decide +kernel)) (mg 524 (by decide +kernel) (by decide +kernel)) (mg 14 (by decide +kernel) (by decide +kernel)) (mg 525 (by decide +kernel) (by decide +kernel)) (by decide +kernel)
  · exact CallOK.V (d := 6) (own := RX5) (i := 186) (n := 2) (ci := 5) (good_X5_worstLeft l) (by decide) (by decide) rfl (by decide) rec_X5_worstLeft (mg 529 (by decide +kernel) (by decide +kernel)) (mg 531 (by decide +kernel) (by decide +kernel)) (mgs 20 (by decide +kernel) (by decide +kernel)) (mg 1 (by decide +kernel) (by decide +kernel)) (mg 532 (by decide +kernel) (by decide +kernel)) (by decide +kernel)
set_option maxRecDepth 20000 in
set_option maxHeartbeats 4000000 in
theorem body_X5_ask (o : Nat) (i : Int) (w : Int) (μ : Mem) (K : List AV → Mem → Prop) (V : Nat → List (Option AV) → List AV → Mem → Prop) (hV : Clos FX5 CX5 G_X5_ask 1 K cX5_ask V) (hT : o = 0 ∧ (InR i ∧ InR w ∧ RP μ 8 ∧ ∃ f, RG μ 1 f ∧ SG μ 15 f ∧ WF f ∧ SW f ∧ f 38 ≤ 9999 ∧ ∀ ν, FQ μ ν → K [.inl (askR f i w)] ν)) : V 0 [some (.inr (.inr o)), some (.inl i), some (.inl w), none, none, none, none, none] [] μ := by
  simp only [InR] at hT
  obtain ⟨rfl, hi, hw, hP, f, hR, hG, hW, hS, h38, hK⟩ := hT
  have h35 := hW.1
  have r35 := hR.2.1
  unfold askR at hK
  by_cases hc : (0 ≤ i ∧ i < f 35) ∧ 0 ≤ w ∧ w ≤ 1
  · obtain ⟨i', rfl⟩ := Int.eq_ofNat_of_zero_le hc.1.1
    rw [if_pos hc, Int.toNat_natCast] at hK
    have fin : ∀ ν, FQ μ ν ∧ LK ν (fitV f i' 3) (lkL f i') 10 → V 48 [some (.inr (.inr 0)), some (.inl (i' : Int)), some (.inl w), some (.inl ((bitsN (fitV f i' 3) 10 : Nat) : Int)), some (.inl ((pcN (bitsN (fitV f i' 3) 10) 10 : Nat) : Int)), some (.inl (-4)), some (.inl 0), none] [] ν := by
      intro ν hν
      have := lp_ask V K hV ν f hW i' (by omega) w hc.2 hν.2 (hK ν hν.1) 41 0 (by omega) (-4, (cntP (fitV f i' 3) 10 : Nat)) rfl none
      rw [pc_cnt _ 10 10 (by omega)]
      exact this
    have mid2 : ∀ ν, FQ μ ν → ∃ i_1 : Nat, (i' : Int) = i_1 ∧ RP ν 8 ∧ ∃ (f_1 : Nat → Int) (p : Nat → Bool), ((bitsN (fitV f i' 3) 10 : Nat) : Int) = ((bitsN p 10 : Nat) : Int) ∧ RG ν 1 f_1 ∧ WF f_1 ∧ f_1 38 ≤ 9999 ∧ (i_1 : Int) < f_1 35 ∧ ∀ σ, FQ ν σ ∧ LK σ p (lkL f_1 i_1) 10 → (∃ n : Nat, ((bitsN (fitV f i' 3) 10 : Nat) : Int) = n ∧ n < 1024 ∧ V 48 [some (.inr (.inr 0)), some (.inl (i' : Int)), some (.inl w), some (.inl ((bitsN (fitV f i' 3) 10 : Nat) : Int)), some (.inl ((pcN n 10 : Nat) : Int)), some (.inl (-4)), some (.inl 0), none] [] σ) := fun ν hν => ⟨i', rfl, hν.2.2, f, fitV f i' 3, rfl, hν.ring hR h35.2, hW, h38, by omega, fun σ hσ => ⟨bitsN (fitV f i' 3) 10, rfl, bitsN_b _ 10 (by omega), fin σ ⟨hν.tr hσ.1, hσ.2⟩⟩⟩
    have mid1 : ∃ i_1 t : Nat, (i' : Int) = i_1 ∧ (3 : Int) = t ∧ (t = 0 ∨ t = 3) ∧ RP μ 8 ∧ ∃ f_1, RG μ 1 f_1 ∧ SG μ 15 f_1 ∧ WF f_1 ∧ SW f_1 ∧ f_1 38 ≤ 9999 ∧ (i_1 : Int) < f_1 35 ∧ ∀ ν, FQ μ ν → ∃ i_2 : Nat, (i' : Int) = i_2 ∧ RP ν 8 ∧ ∃ (f_2 : Nat → Int) (p : Nat → Bool), ((bitsN (fitV f_1 i_1 t) (topT t) : Nat) : Int) = ((bitsN p 10 : Nat) : Int) ∧ RG ν 1 f_2 ∧ WF f_2 ∧ f_2 38 ≤ 9999 ∧ (i_2 : Int) < f_2 35 ∧ ∀ σ, FQ ν σ ∧ LK σ p (lkL f_2 i_2) 10 → (∃ n : Nat, ((bitsN (fitV f_1 i_1 t) (topT t) : Nat) : Int) = n ∧ n < 1024 ∧ V 48 [some (.inr (.inr 0)), some (.inl (i' : Int)), some (.inl w), some (.inl ((bitsN (fitV f_1 i_1 t) (topT t) : Nat) : Int)), some (.inl ((pcN n 10 : Nat) : Int)), some (.inl (-4)), some (.inl 0), none] [] σ) := ⟨i', 3, rfl, rfl, Or.inr rfl, hP, f, hR, hG, hW, hS, h38, by omega, mid2⟩
    clear fin mid2 hK
    apply hV [48] 60
    simp only [InR, InL, inb, Int.toNat_natCast, wp1, wpc_z, wpc_s, stp_iconst, stp_bipush, stp_sipush, stp_lconst, stp_iload_n, stp_iload, stp_lload_n, stp_lload, stp_aload_n, stp_aload, stp_istore_n, stp_istore, stp_lstore_n, stp_lstore, stp_astore_n, stp_astore, stp_iinc, stp_iadd, stp_isub, stp_imul, stp_ineg, stp_idiv, stp_irem, stp_ladd, stp_lmul, stp_ldiv, stp_lrem, stp_ishl, stp_ishr, stp_iushr, stp_iand, stp_ior, stp_i2l, stp_i2b, stp_i2s, stp_lcmp, stp_dup, stp_dup2, stp_pop, stp_ifCond, stp_if_icmp, stp_goto, stp_tableswitch, stp_lookupswitch, stp_ldc, stp_ldc_w, stp_ldc2_w, stp_getstatic, stp_getfield, stp_putfield, stp_iaload, stp_baload, stp_iastore, stp_bastore, stp_aaload, stp_aastore, stp_invokevirtual, stp_invokestatic, stp_ireturn, stp_lreturn, stp_return_, lg, lset, okl, spl, wd, c1, cnd, tg, swT, swL, f4_0, f4_1, f4_2, f4_3, f2_0, f2_1, List.mem_cons, List.not_mem_nil, List.length_cons, List.length_nil, List.cons_append, List.nil_append, Nat.reduceAdd, Nat.reduceMul, Nat.reduceLT, Nat.reduceEqDiff, Nat.reduceLeDiff, Int.reduceAdd, Int.reduceNeg, Int.reduceToNat, Int.cast_ofNat_Int, Int.reduceNatCast, Int.toNat_zero, Int.toNat_one, Int.reduceLE, Int.reduceLT, Int.reduceEq, Int.zero_add, Int.add_zero, or_false, false_or, or_true, true_or, and_true, true_and, and_false, false_and, reduceIte, not_true_eq_false, not_false_eq_true, forall_const, false_implies, true_implies, implies_true, ne_eq, reduceCtorEq, List.all_cons, List.all_nil, Bool.and_true, Bool.and_self, decide_eq_true_eq, decide_true, dX5_ask_0, dX5_ask_1, dX5_ask_4, dX5_ask_5, dX5_ask_8, dX5_ask_11, dX5_ask_12, dX5_ask_13, dX5_ask_14, dX5_ask_17, dX5_ask_20, dX5_ask_21, dX5_ask_22, dX5_ask_23, dX5_ask_24, dX5_ask_25, dX5_ask_28, dX5_ask_29, dX5_ask_30, dX5_ask_31, dX5_ask_32, dX5_ask_35, dX5_ask_36, dX5_ask_39, dX5_ask_41, dX5_ask_43, dX5_ask_45, dX5_ask_46, dX5_ask_48, dX5_ask_50, dX5_ask_52, dX5_ask_55, dX5_ask_56, dX5_ask_57, dX5_ask_59, dX5_ask_62, dX5_ask_64, dX5_ask_66, dX5_ask_68, dX5_ask_71, dX5_ask_73, dX5_ask_75, dX5_ask_77, dX5_ask_79, dX5_ask_82, dX5_ask_85, dX5_ask_87, dX5_ask_89, dX5_ask_92, dX5_ask_93, dX5_ask_96, dX5_ask_98, dX5_ask_101, dX5_ask_103, FX5_10, G_X5_ask_111, G_X5_ask_52, G_X5_ask_175, G_X5_ask_178, G_X5_ask_181, G_X5_ask_186, kd_0, kd_1, T1_has, T5_isOutside, T5_fitting, T5_lookAhead, T_bit, r35]
    repeat' (first | exact trivial | omega | (with_reducible assumption) | exact absurd trivial (by with_reducible assumption) | contradiction | apply And.intro | intro _)
  · rw [if_neg hc] at hK
    have hk := hK μ (FQ.rf hP)
    apply hV [22] 20
    simp only [InR, InL, inb, Int.toNat_natCast, wp1, wpc_z, wpc_s, stp_iconst, stp_bipush, stp_sipush, stp_lconst, stp_iload_n, stp_iload, stp_lload_n, stp_lload, stp_aload_n, stp_aload, stp_istore_n, stp_istore, stp_lstore_n, stp_lstore, stp_astore_n, stp_astore, stp_iinc, stp_iadd, stp_isub, stp_imul, stp_ineg, stp_idiv, stp_irem, stp_ladd, stp_lmul, stp_ldiv, stp_lrem, stp_ishl, stp_ishr, stp_iushr, stp_iand, stp_ior, stp_i2l, stp_i2b, stp_i2s, stp_lcmp, stp_dup, stp_dup2, stp_pop, stp_ifCond, stp_if_icmp, stp_goto, stp_tableswitch, stp_lookupswitch, stp_ldc, stp_ldc_w, stp_ldc2_w, stp_getstatic, stp_getfield, stp_putfield, stp_iaload, stp_baload, stp_iastore, stp_bastore, stp_aaload, stp_aastore, stp_invokevirtual, stp_invokestatic, stp_ireturn, stp_lreturn, stp_return_, lg, lset, okl, spl, wd, c1, cnd, tg, swT, swL, f4_0, f4_1, f4_2, f4_3, f2_0, f2_1, List.mem_cons, List.not_mem_nil, List.length_cons, List.length_nil, List.cons_append, List.nil_append, Nat.reduceAdd, Nat.reduceMul, Nat.reduceLT, Nat.reduceEqDiff, Nat.reduceLeDiff, Int.reduceAdd, Int.reduceNeg, Int.reduceToNat, Int.cast_ofNat_Int, Int.reduceNatCast, Int.toNat_zero, Int.toNat_one, Int.reduceLE, Int.reduceLT, Int.reduceEq, Int.zero_add, Int.add_zero, or_false, false_or, or_true, true_or, and_true, true_and, and_false, false_and, reduceIte, not_true_eq_false, not_false_eq_true, forall_const, false_implies, true_implies, implies_true, ne_eq, reduceCtorEq, List.all_cons, List.all_nil, Bool.and_true, Bool.and_self, decide_eq_true_eq, decide_true, dX5_ask_0, dX5_ask_1, dX5_ask_4, dX5_ask_5, dX5_ask_8, dX5_ask_11, dX5_ask_12, dX5_ask_13, dX5_ask_14, dX5_ask_17, dX5_ask_20, dX5_ask_21, dX5_ask_22, dX5_ask_23, dX5_ask_24, dX5_ask_25, dX5_ask_28, dX5_ask_29, dX5_ask_30, dX5_ask_31, dX5_ask_32, dX5_ask_35, dX5_ask_36, dX5_ask_39, dX5_ask_41, dX5_ask_43, dX5_ask_45, dX5_ask_46, dX5_ask_48, dX5_ask_50, dX5_ask_52, dX5_ask_55, dX5_ask_56, dX5_ask_57, dX5_ask_59, dX5_ask_62, dX5_ask_64, dX5_ask_66, dX5_ask_68, dX5_ask_71, dX5_ask_73, dX5_ask_75, dX5_ask_77, dX5_ask_79, dX5_ask_82, dX5_ask_85, dX5_ask_87, dX5_ask_89, dX5_ask_92, dX5_ask_93, dX5_ask_96, dX5_ask_98, dX5_ask_101, dX5_ask_103, FX5_10, G_X5_ask_111, G_X5_ask_52, G_X5_ask_175, G_X5_ask_178, G_X5_ask_181, G_X5_ask_186, kd_0, kd_1, T1_has, T5_isOutside, r35]
    repeat' (first | exact trivial | omega | (with_reducible assumption) | exact absurd trivial (by with_reducible assumption) | contradiction | apply And.intro | intro _)
theorem good_X5_ask (l : Launch) : Good l 6 yX5_ask cX5_ask 8 (some .int) T5_ask := by
  refine Good.mk 1 (by decide) rfl (by simp [retOK]) FOK5 COK5 (gk_X5_ask l) ?_ ?_
  · intro a μ K h
    unfold T5_ask at h
    split at h
    · simp [entl]
    · exact h.elim
  · intro a μ K V hV h
    unfold T5_ask at h
    split at h
    · exact body_X5_ask _ _ _ μ K V hV h
    · exact h.elim

