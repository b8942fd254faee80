/-! both: drift -/
def sdS (s : Int) : Nat → Int
  | 0 => s
  | n + 1 => sdS s n * 1103515245 + 12345
def gotS (s : Int) (n : Nat) : Int := (sdS s n * 1103515245 + 12345) % 4294967296 / 65536 % 32768
theorem gotS_in (s : Int) (n : Nat) : 0 ≤ gotS s n ∧ gotS s n < 32768 := by unfold gotS; omega
theorem bm_got (a : Int) : Int.bmod a 4294967296 / 65536 % 32768 = a % 4294967296 / 65536 % 32768 := by
  unfold Int.bmod
  simp only
  split
  · omega
  · omega
def ptX (f : Nat → Int) (i : Nat) (m : Int) : Nat → Int := upF f (7 * i + 1) (f (7 * i + 1) + min m (99 - f (7 * i + 1)))
def drI (f : Nat → Int) (s : Int) (n : Nat) : Nat := (gotS s n % f 35).toNat
def drM (s : Int) (n : Nat) : Int := gotS s n / 8 % 10
def drF (f : Nat → Int) (s : Int) : Nat → Nat → Int
  | 0 => f
  | n + 1 => nxt (ptX (drF f s n) (drI f s n) (drM s n)) true
def drS (f : Nat → Int) (s : Int) : Nat → Int
  | 0 => 0
  | n + 1 => drS f s n + sndI (ptX (drF f s n) (drI f s n) (drM s n)) true
theorem drI_in {f : Nat → Int} (s : Int) (n : Nat) (h : 0 < f 35) : gotS s n % f 35 = (drI f s n : Int) ∧ (drI f s n : Int) < f 35 := by
  have h1 := Int.emod_nonneg (gotS s n) (show f 35 ≠ 0 by omega)
  have h2 := Int.emod_lt_of_pos (gotS s n) h
  unfold drI
  omega
theorem drM_in (s : Int) (n : Nat) : 0 ≤ drM s n ∧ drM s n ≤ 9 := by unfold drM; omega
theorem ptX_WF {f : Nat → Int} (h : WF f) {i : Nat} (hi : (i : Int) < f 35) {m : Int} (hm : 0 ≤ m) : WF (ptX f i m) ∧ ptX f i m 38 = f 38 ∧ ptX f i m 35 = f 35 := by
  have hs := (h.2.2.2 i hi).2.1
  have h35 := h.1
  refine ⟨h.set hi (by omega) ⟨fun z => by omega, fun _ => by omega, fun z => by omega, fun z => by omega, fun z => by omega⟩, upF_n _ _ (by omega), upF_n _ _ (by omega)⟩
theorem dr_WF {f : Nat → Int} (s : Int) (h : WF f) (h0 : 0 < f 35) : ∀ n : Nat, (WF (drF f s n) ∧ drF f s n 38 = f 38 + n ∧ drF f s n 35 = f 35) ∧ 0 ≤ drS f s n ∧ drS f s n ≤ 18 * n
  | 0 => by refine ⟨⟨h, ?_, rfl⟩, ?_, ?_⟩ <;> simp [drF, drS]
  | n + 1 => by
    obtain ⟨⟨h1, h2, h3⟩, h4, h5⟩ := dr_WF s h h0 n
    have hi := drI_in s n h0
    obtain ⟨p1, p2, p3⟩ := ptX_WF h1 (i := drI f s n) (by rw [h3]; exact hi.2) (drM_in s n).1
    have hs := snd_in p1 true
    refine ⟨⟨nxt_WF _ p1, ?_, ?_⟩, ?_, ?_⟩
    · show nxt _ _ 38 = _
      rw [nxt_38 _ p1, p2, h2]; omega
    · show nxt _ _ 35 = _
      rw [nxt_o _ _ (by omega) p1, p3, h3]
    · show 0 ≤ drS f s n + _
      omega
    · show drS f s n + _ ≤ _
      omega
def driftR (f : Nat → Int) (s n w : Int) : Int := if (1 ≤ n ∧ n ≤ 200) ∧ 0 ≤ w ∧ w ≤ 1 then (if f 35 = 0 then -2 else if w = 0 then drS f s n.toNat else sumF (drF f s n.toNat) 1 (f 35).toNat) else -1
def GL_X5_drift : List (Nat × Nat × Bool × TT) := [(52, 3, true, T5_isOutside), (144, 1, false, T5_startTrial), (129, 3, false, T1_add), (140, 2, false, T1_visit), (103, 2, false, T1_total)]
def G_X5_drift : Nat → Option (Nat × Bool × TT) := fun i => GL_X5_drift.lookup i
theorem G_X5_drift_52 : G_X5_drift 52 = some (3, true, T5_isOutside) := rfl
theorem G_X5_drift_144 : G_X5_drift 144 = some (1, false, T5_startTrial) := rfl
theorem G_X5_drift_129 : G_X5_drift 129 = some (3, false, T1_add) := rfl
theorem G_X5_drift_140 : G_X5_drift 140 = some (2, false, T1_visit) := rfl
theorem G_X5_drift_103 : G_X5_drift 103 = some (2, false, T1_total) := rfl

set_option maxRecDepth 20000 in
set_option maxHeartbeats 4000000 in
theorem lp_drift (V : Nat → List (Option AV) → List AV → Mem → Prop) (K : List AV → Mem → Prop) (hV : Clos FX5 CX5 G_X5_drift 1 K cX5_drift V) (μ : Mem) (f : Nat → Int) (hW : WF f) (h38 : f 38 ≤ 9999) (h0 : 0 < f 35) (s : Int) (e : Nat) (he : e ≤ 200) (w : Int) (hw : 0 ≤ w ∧ w ≤ 1) (hP : RP μ 8) (hR : RG μ 1 f) (hK : ∀ ν, FQ μ ν → K [.inl (if w = 0 then drS f s e else sumF (drF f s e) 1 (f 35).toNat)] ν) : ∀ m n : Nat, n + m = e → ∀ ν, FQ μ ν → RG ν 8 (drF f s n) → rI ν 8 5 = drS f s n → ∀ x : Option AV, V 45 [some (.inr (.inr 0)), some (.inl s), some (.inl (e : Int)), some (.inl w), some (.inl (sdS s n)), some (.inl (n : Int)), x] [] ν := by
  have h35 := hW.1
  obtain ⟨k12, l5, k7⟩ := ringk kd_8
  intro m
  induction m with
  | zero =>
    intro n hn ν hF hG h5 x
    have en : n = e := by omega
    subst en
    have hk := hK ν hF
    obtain ⟨⟨x1, x2, x3⟩, x4, x5⟩ := dr_WF s hW h0 n
    apply hV [45] 60
    simp only [InR, InL, inb, Int.toNat_natCast, wp1, wpc_z, wpc_s, stp_iconst, stp_bipush, stp_sipush, stp_lconst, stp_iload_n, stp_iload, stp_lload_n, stp_lload, stp_aload_n, stp_aload, stp_istore_n, stp_istore, stp_lstore_n, stp_lstore, stp_astore_n, stp_astore, stp_iinc, stp_iadd, stp_isub, stp_imul, stp_ineg, stp_idiv, stp_irem, stp_ladd, stp_lmul, stp_ldiv, stp_lrem, stp_ishl, stp_ishr, stp_iushr, stp_iand, stp_ior, stp_i2l, stp_i2b, stp_i2s, stp_lcmp, stp_dup, stp_dup2, stp_pop, stp_ifCond, stp_if_icmp, stp_goto, stp_tableswitch, stp_lookupswitch, stp_ldc, stp_ldc_w, stp_ldc2_w, stp_getstatic, stp_getfield, stp_putfield, stp_iaload, stp_baload, stp_iastore, stp_bastore, stp_aaload, stp_aastore, stp_invokevirtual, stp_invokestatic, stp_ireturn, stp_lreturn, stp_return_, lg, lset, okl, spl, wd, c1, cnd, tg, swT, swL, f4_0, f4_1, f4_2, f4_3, f2_0, f2_1, List.mem_cons, List.not_mem_nil, List.length_cons, List.length_nil, List.cons_append, List.nil_append, Nat.reduceAdd, Nat.reduceMul, Nat.reduceLT, Nat.reduceEqDiff, Nat.reduceLeDiff, Int.reduceAdd, Int.reduceNeg, Int.reduceToNat, Int.cast_ofNat_Int, Int.reduceNatCast, Int.toNat_zero, Int.toNat_one, Int.reduceLE, Int.reduceLT, Int.reduceEq, Int.zero_add, Int.add_zero, or_false, false_or, or_true, true_or, and_true, true_and, and_false, false_and, reduceIte, not_true_eq_false, not_false_eq_true, forall_const, false_implies, true_implies, implies_true, ne_eq, reduceCtorEq, List.all_cons, List.all_nil, Bool.and_true, Bool.and_self, decide_eq_true_eq, decide_true, dX5_drift_0, dX5_drift_1, dX5_drift_2, dX5_drift_5, dX5_drift_8, dX5_drift_11, dX5_drift_12, dX5_drift_13, dX5_drift_14, dX5_drift_17, dX5_drift_20, dX5_drift_21, dX5_drift_22, dX5_drift_23, dX5_drift_26, dX5_drift_29, dX5_drift_32, dX5_drift_34, dX5_drift_35, dX5_drift_36, dX5_drift_39, dX5_drift_40, dX5_drift_42, dX5_drift_43, dX5_drift_45, dX5_drift_47, dX5_drift_48, dX5_drift_51, dX5_drift_53, dX5_drift_55, dX5_drift_56, dX5_drift_59, dX5_drift_60, dX5_drift_62, dX5_drift_64, dX5_drift_66, dX5_drift_67, dX5_drift_70, dX5_drift_71, dX5_drift_73, dX5_drift_74, dX5_drift_77, dX5_drift_79, dX5_drift_80, dX5_drift_83, dX5_drift_86, dX5_drift_87, dX5_drift_89, dX5_drift_91, dX5_drift_92, dX5_drift_94, dX5_drift_95, dX5_drift_98, dX5_drift_99, dX5_drift_100, dX5_drift_103, dX5_drift_104, dX5_drift_107, dX5_drift_108, dX5_drift_111, dX5_drift_114, dX5_drift_115, dX5_drift_118, dX5_drift_119, dX5_drift_122, dX5_drift_125, dX5_drift_128, dX5_drift_129, dX5_drift_132, dX5_drift_133, dX5_drift_136, FX5_10, FX5_85, CX5_189, FX5_16, FX5_97, G_X5_drift_52, G_X5_drift_144, G_X5_drift_129, G_X5_drift_140, G_X5_drift_103, kd_0, kd_1, kd_8, h5, T1_total]
    by_cases w0 : w = 0
    · rw [if_pos w0] at hk
      repeat' (first | exact trivial | omega | (with_reducible assumption) | exact absurd trivial (by with_reducible assumption) | contradiction | apply And.intro | intro _)
    · rw [if_neg w0] at hk
      repeat' (first | exact trivial | omega | (with_reducible assumption) | exact absurd trivial (by with_reducible assumption) | contradiction | apply And.intro | intro _)
      all_goals exact ⟨drF f s n, hG, by rw [x3]; exact h35, by rw [x3]; exact hk⟩
  | succ m ih =>
    intro n hn ν hF hG h5 x
    obtain ⟨⟨x1, x2, x3⟩, x4, x5⟩ := dr_WF s hW h0 n
    have hgi := gotS_in s n
    obtain ⟨hi, hi2⟩ := drI_in s n h0
    have hm := drM_in s n
    have hm2 : gotS s n / 8 % 10 = drM s n := rfl
    have hg : (sdS s n * 1103515245 + 12345) % 4294967296 / 65536 % 32768 = gotS s n := rfl
    have e1 := (hF.ring hR h35.2).2.1
    have hP2 := hF.2.2
    have hr : 10 ≤ rR ν 9 (drI f s n) ∧ rR ν 9 (drI f s n) ≤ 14 := hP2.1 _ (by omega)
    obtain ⟨d1, d2⟩ := k7 _ hr.1 hr.2
    have v1 : rI ν (rR ν 9 (drI f s n)) 1 = drF f s n (7 * drI f s n + 1) := hG.row (by rw [x3]; exact hi2) (by omega)
    have hs := (x1.2.2.2 (drI f s n) (by rw [x3]; exact hi2)).2.1
    obtain ⟨p1, p2, p3⟩ := ptX_WF x1 (i := drI f s n) (by rw [x3]; exact hi2) hm.1
    have hset := hG.set (by rw [x3]; exact h35.2) (i := drI f s n) (t := 1) (by rw [x3]; exact hi2) (by omega) (drF f s n (7 * drI f s n + 1) + min (drM s n) (99 - drF f s n (7 * drI f s n + 1)))
    have fin : ∀ z : Int, RG (wI (wI ν (rR ν 9 (drI f s n)) 1 (drF f s n (7 * drI f s n + 1) + min (drM s n) (99 - drF f s n (7 * drI f s n + 1)))) 8 6 z) 8 (ptX (drF f s n) (drI f s n) (drM s n)) ∧ ∀ ρ, VR (wI (wI ν (rR ν 9 (drI f s n)) 1 (drF f s n (7 * drI f s n + 1) + min (drM s n) (99 - drF f s n (7 * drI f s n + 1)))) 8 6 z) ρ 8 (ptX (drF f s n) (drI f s n) (drM s n)) true → V 45 [some (.inr (.inr 0)), some (.inl s), some (.inl (e : Int)), some (.inl w), some (.inl (sdS s n * 1103515245 + 12345)), some (.inl ((n : Int) + 1)), some (.inl (gotS s n))] [] ρ := by
      intro z
      have hRG : RG (wI (wI ν (rR ν 9 (drI f s n)) 1 (drF f s n (7 * drI f s n + 1) + min (drM s n) (99 - drF f s n (7 * drI f s n + 1)))) 8 6 z) 8 (ptX (drF f s n) (drI f s n) (drM s n)) := by
        obtain ⟨q1, q2, q3, q4, q5, q6⟩ := hset
        refine ⟨q1.of (fun _ => rfl), ?_, ?_, ?_, ?_, fun k t hk ht => ?_⟩
        · rw [rI_wI, if_neg (by omega)]; exact q2
        · rw [rI_wI, if_neg (by omega)]; exact q3
        · rw [rI_wI, if_neg (by omega)]; exact q4
        · rw [rI_wI, if_neg (by omega)]; exact q5
        · rw [show ptX (drF f s n) (drI f s n) (drM s n) 35 = f 35 by rw [p3, x3]] at hk
          have hrk : 10 ≤ rR ν 9 k ∧ rR ν 9 k ≤ 14 := hP2.1 k (by omega)
          have := q6 k t (by rw [upF_n _ _ (by omega), x3]; exact hk) ht
          show rI (wI (wI ν (rR ν 9 (drI f s n)) 1 _) 8 6 z) (rR ν 9 k) t = _
          rw [rI_wI, if_neg (by omega)]
          exact this
      refine ⟨hRG, fun ρ hρ => ?_⟩
      obtain ⟨v1', v2, v3, v4⟩ := hρ
      have hF2 : FQ μ ρ := by
        refine hF.tr (FQ.tr (ν := wI (wI ν (rR ν 9 (drI f s n)) 1 (drF f s n (7 * drI f s n + 1) + min (drM s n) (99 - drF f s n (7 * drI f s n + 1)))) 8 6 z) ⟨fun k hk j => ?_, fun _ _ _ => rfl, hRG.1⟩ (v4.q hRG.1))
        rw [rI_wI, if_neg (by omega), rI_wI, if_neg (by omega)]
      have h := ih (n + 1) (by omega) ρ hF2 v1' (by
        rw [v2, rI_wI, if_neg (by omega), rI_wI, if_neg (by omega), h5]; rfl) (some (.inl (gotS s n)))
      rw [show ((n + 1 : Nat) : Int) = (n : Int) + 1 by omega] at h
      exact h
    apply hV [45] 60
    simp only [InR, InL, inb, Int.toNat_natCast, wp1, wpc_z, wpc_s, stp_iconst, stp_bipush, stp_sipush, stp_lconst, stp_iload_n, stp_iload, stp_lload_n, stp_lload, stp_aload_n, stp_aload, stp_istore_n, stp_istore, stp_lstore_n, stp_lstore, stp_astore_n, stp_astore, stp_iinc, stp_iadd, stp_isub, stp_imul, stp_ineg, stp_idiv, stp_irem, stp_ladd, stp_lmul, stp_ldiv, stp_lrem, stp_ishl, stp_ishr, stp_iushr, stp_iand, stp_ior, stp_i2l, stp_i2b, stp_i2s, stp_lcmp, stp_dup, stp_dup2, stp_pop, stp_ifCond, stp_if_icmp, stp_goto, stp_tableswitch, stp_lookupswitch, stp_ldc, stp_ldc_w, stp_ldc2_w, stp_getstatic, stp_getfield, stp_putfield, stp_iaload, stp_baload, stp_iastore, stp_bastore, stp_aaload, stp_aastore, stp_invokevirtual, stp_invokestatic, stp_ireturn, stp_lreturn, stp_return_, lg, lset, okl, spl, wd, c1, cnd, tg, swT, swL, f4_0, f4_1, f4_2, f4_3, f2_0, f2_1, List.mem_cons, List.not_mem_nil, List.length_cons, List.length_nil, List.cons_append, List.nil_append, Nat.reduceAdd, Nat.reduceMul, Nat.reduceLT, Nat.reduceEqDiff, Nat.reduceLeDiff, Int.reduceAdd, Int.reduceNeg, Int.reduceToNat, Int.cast_ofNat_Int, Int.reduceNatCast, Int.toNat_zero, Int.toNat_one, Int.reduceLE, Int.reduceLT, Int.reduceEq, Int.zero_add, Int.add_zero, or_false, false_or, or_true, true_or, and_true, true_and, and_false, false_and, reduceIte, not_true_eq_false, not_false_eq_true, forall_const, false_implies, true_implies, implies_true, ne_eq, reduceCtorEq, List.all_cons, List.all_nil, Bool.and_true, Bool.and_self, decide_eq_true_eq, decide_true, dX5_drift_0, dX5_drift_1, dX5_drift_2, dX5_drift_5, dX5_drift_8, dX5_drift_11, dX5_drift_12, dX5_drift_13, dX5_drift_14, dX5_drift_17, dX5_drift_20, dX5_drift_21, dX5_drift_22, dX5_drift_23, dX5_drift_26, dX5_drift_29, dX5_drift_32, dX5_drift_34, dX5_drift_35, dX5_drift_36, dX5_drift_39, dX5_drift_40, dX5_drift_42, dX5_drift_43, dX5_drift_45, dX5_drift_47, dX5_drift_48, dX5_drift_51, dX5_drift_53, dX5_drift_55, dX5_drift_56, dX5_drift_59, dX5_drift_60, dX5_drift_62, dX5_drift_64, dX5_drift_66, dX5_drift_67, dX5_drift_70, dX5_drift_71, dX5_drift_73, dX5_drift_74, dX5_drift_77, dX5_drift_79, dX5_drift_80, dX5_drift_83, dX5_drift_86, dX5_drift_87, dX5_drift_89, dX5_drift_91, dX5_drift_92, dX5_drift_94, dX5_drift_95, dX5_drift_98, dX5_drift_99, dX5_drift_100, dX5_drift_103, dX5_drift_104, dX5_drift_107, dX5_drift_108, dX5_drift_111, dX5_drift_114, dX5_drift_115, dX5_drift_118, dX5_drift_119, dX5_drift_122, dX5_drift_125, dX5_drift_128, dX5_drift_129, dX5_drift_132, dX5_drift_133, dX5_drift_136, FX5_10, FX5_85, CX5_189, FX5_16, FX5_97, G_X5_drift_52, G_X5_drift_144, G_X5_drift_129, G_X5_drift_140, G_X5_drift_103, kd_0, kd_1, kd_8, e1, T1_add, T1_visit, Int.reducePow, hg, hi, hm2, v1]
    have hPP : RP ν 8 := hP2
    generalize RP ν 8 = P at hPP ⊢
    repeat' (first | exact trivial | omega | (with_reducible assumption) | exact absurd trivial (by with_reducible assumption) | contradiction | apply And.intro | intro _)
    all_goals exact ⟨_, true, (fin _).1, p1, by rw [p2, x2]; omega, by simp, (fin _).2⟩
def T5_drift : TT := fun a μ K => match a with
  | [.inr (.inr o), .inl s, .inl n, .inl w] => o = 0 ∧ (InR s ∧ InR n ∧ InR w ∧ RP μ 8 ∧ ∃ f, RG μ 1 f ∧ WF f ∧ f 38 ≤ 9999 ∧ ∀ ν, FQ μ ν → K [.inl (driftR f s n w)] ν)
  | _ => False
theorem rec_X5_drift : ∀ a μ K, T5_drift a μ K → ∃ k r, a = .inr (.inr k) :: r ∧ kd k = 5 := by
  intro a μ K h
  unfold T5_drift at h
  split at h
  · exact ⟨_, _, rfl, by rw [h.1]; rfl⟩
  · exact h.elim
theorem gk_X5_drift (l : Launch) : ∀ i n b T, G_X5_drift i = some (n, b, T) → CallOK l 4 RX5 i n b T := by
  intro i n b T h
  have hm : (i, n, b, T) ∈ GL_X5_drift := lk_mem h
  simp only [GL_X5_drift, List.mem_cons, List.not_mem_nil, or_false, Prod.mk.injEq] at hm
  rcases hm with ⟨rfl, rfl, rfl, rfl⟩ | ⟨rfl, rfl, rfl, rfl⟩ | ⟨rfl, rfl, rfl, rfl⟩ | ⟨rfl, rfl, rfl, rfl⟩ | ⟨rfl, rfl, rfl, rfl⟩
  · exact CallOK.S (d := 4) (own := RX5) (i := 52) (n := 3) (good_X5_isOutside l) (by decide) (by decide) (mg 191 (by decide +kernel) (by decide +kernel)) (mg 192 (by decide +kernel) (by decide +kernel)) (mg 1 (by decide +kernel) (by decide +kernel)) (mg 193 (by decide +kernel) (by decide +kernel)) (by decide +kernel)
  · exact CallOK.V (d := 4) (own := RX5) (i := 144) (n := 0) (ci := 5) (good_X5_startTrial l) (by decide) (by decide) rfl (by decide) rec_X5_startTrial (mg 406 (by decide +kernel) (by decide +kernel)) (mg 408 (by decide +kernel) (by decide +kernel)) (mgs 13 (by decide +kernel) (by decide +kernel)) (mg 1 (by decide +kernel) (by decide +kernel)) (mg 409 (by decide +kernel) (by decide +kernel)) (by decide +kernel)
  · exact CallOK.V (d := 4) (own := RX5) (i := 129) (n := 2) (ci := 1) (good_X1_add l) (by decide) (by decide) rfl (by decide) rec_X1_add (mg 371 (by decide +kernel) (by decide +kernel)) (mg 372 (by decide +kernel) (by decide +kernel)) (mg 373 (by decide +kernel) (by decide +kernel)) (mg 2 (by decide +kernel) (by decide +kernel)) (mg 374 (by decide +kernel) (by decide +kernel)) (by decide +kernel)
  · exact CallOK.V (d := 4) (own := RX5) (i := 140) (n := 1) (ci := 1) (good_X1_visit l) (by decide) (by decide) rfl (by decide) rec_X1_visit (mg 392 (by decide +kernel) (by decide +kernel)) (mg 393 (by decide +kernel) (by decide +kernel)) (mg 394 (by decide +kernel) (by decide +kernel)) (mg 2 (by decide +kernel) (by decide +kernel)) (mg 395 (by decide +kernel) (by decide +kernel)) (by decide +kernel)
  · exact CallOK.V (d := 4) (own := RX5) (i := 103) (n := 1) (ci := 1) (good_X1_total l) (by decide) (by decide) rfl (by decide) rec_X1_total (mg 331 (by decide +kernel) (by decide +kernel)) (mg 332 (by decide +kernel) (by decide +kernel)) (mg 333 (by decide +kernel) (by decide +kernel)) (mg 2 (by decide +kernel) (by decide +kernel)) (mg 334 (by decide +kernel) (by decide +kernel)) (by decide +kernel)
set_option maxRecDepth 20000 in
set_option maxHeartbeats 4000000 in
theorem body_X5_drift (o : Nat) (s : Int) (n : Int) (w : Int) (μ : Mem) (K : List AV → Mem → Prop) (V : Nat → List (Option AV) → List AV → Mem → Prop) (hV : Clos FX5 CX5 G_X5_drift 1 K cX5_drift V) (hT : o = 0 ∧ (InR s ∧ InR n ∧ InR w ∧ RP μ 8 ∧ ∃ f, RG μ 1 f ∧ WF f ∧ f 38 ≤ 9999 ∧ ∀ ν, FQ μ ν → K [.inl (driftR f s n w)] ν)) : V 0 [some (.inr (.inr o)), some (.inl s), some (.inl n), some (.inl w), none, none, none] [] μ := by
  simp only [InR] at hT
  obtain ⟨rfl, hs, hn, hw, hP, f, hR, hW, h38, hK⟩ := hT
  have h35 := hW.1
  have r35 := hR.2.1
  by_cases hc : (1 ≤ n ∧ n ≤ 200) ∧ 0 ≤ w ∧ w ≤ 1
  · obtain ⟨n', rfl⟩ := Int.eq_ofNat_of_zero_le (show 0 ≤ n by omega)
    by_cases h0 : f 35 = 0
    · have hk := hK μ (FQ.rf hP)
      unfold driftR at hk
      rw [if_pos hc, if_pos h0] at hk
      apply hV [35] 80
      simp only [InR, InL, inb, Int.toNat_natCast, wp1, wpc_z, wpc_s, stp_iconst, stp_bipush, stp_sipush, stp_lconst, stp_iload_n, stp_iload, stp_lload_n, stp_lload, stp_aload_n, stp_aload, stp_istore_n, stp_istore, stp_lstore_n, stp_lstore, stp_astore_n, stp_astore, stp_iinc, stp_iadd, stp_isub, stp_imul, stp_ineg, stp_idiv, stp_irem, stp_ladd, stp_lmul, stp_ldiv, stp_lrem, stp_ishl, stp_ishr, stp_iushr, stp_iand, stp_ior, stp_i2l, stp_i2b, stp_i2s, stp_lcmp, stp_dup, stp_dup2, stp_pop, stp_ifCond, stp_if_icmp, stp_goto, stp_tableswitch, stp_lookupswitch, stp_ldc, stp_ldc_w, stp_ldc2_w, stp_getstatic, stp_getfield, stp_putfield, stp_iaload, stp_baload, stp_iastore, stp_bastore, stp_aaload, stp_aastore, stp_invokevirtual, stp_invokestatic, stp_ireturn, stp_lreturn, stp_return_, lg, lset, okl, spl, wd, c1, cnd, tg, swT, swL, f4_0, f4_1, f4_2, f4_3, f2_0, f2_1, List.mem_cons, List.not_mem_nil, List.length_cons, List.length_nil, List.cons_append, List.nil_append, Nat.reduceAdd, Nat.reduceMul, Nat.reduceLT, Nat.reduceEqDiff, Nat.reduceLeDiff, Int.reduceAdd, Int.reduceNeg, Int.reduceToNat, Int.cast_ofNat_Int, Int.reduceNatCast, Int.toNat_zero, Int.toNat_one, Int.reduceLE, Int.reduceLT, Int.reduceEq, Int.zero_add, Int.add_zero, or_false, false_or, or_true, true_or, and_true, true_and, and_false, false_and, reduceIte, not_true_eq_false, not_false_eq_true, forall_const, false_implies, true_implies, implies_true, ne_eq, reduceCtorEq, List.all_cons, List.all_nil, Bool.and_true, Bool.and_self, decide_eq_true_eq, decide_true, dX5_drift_0, dX5_drift_1, dX5_drift_2, dX5_drift_5, dX5_drift_8, dX5_drift_11, dX5_drift_12, dX5_drift_13, dX5_drift_14, dX5_drift_17, dX5_drift_20, dX5_drift_21, dX5_drift_22, dX5_drift_23, dX5_drift_26, dX5_drift_29, dX5_drift_32, dX5_drift_34, dX5_drift_35, dX5_drift_36, dX5_drift_39, dX5_drift_40, dX5_drift_42, dX5_drift_43, dX5_drift_45, dX5_drift_47, dX5_drift_48, dX5_drift_51, dX5_drift_53, dX5_drift_55, dX5_drift_56, dX5_drift_59, dX5_drift_60, dX5_drift_62, dX5_drift_64, dX5_drift_66, dX5_drift_67, dX5_drift_70, dX5_drift_71, dX5_drift_73, dX5_drift_74, dX5_drift_77, dX5_drift_79, dX5_drift_80, dX5_drift_83, dX5_drift_86, dX5_drift_87, dX5_drift_89, dX5_drift_91, dX5_drift_92, dX5_drift_94, dX5_drift_95, dX5_drift_98, dX5_drift_99, dX5_drift_100, dX5_drift_103, dX5_drift_104, dX5_drift_107, dX5_drift_108, dX5_drift_111, dX5_drift_114, dX5_drift_115, dX5_drift_118, dX5_drift_119, dX5_drift_122, dX5_drift_125, dX5_drift_128, dX5_drift_129, dX5_drift_132, dX5_drift_133, dX5_drift_136, FX5_10, FX5_85, CX5_189, FX5_16, FX5_97, G_X5_drift_52, G_X5_drift_144, G_X5_drift_129, G_X5_drift_140, G_X5_drift_103, kd_0, kd_1, kd_8, T5_isOutside, r35]
      repeat' (first | exact trivial | omega | (with_reducible assumption) | exact absurd trivial (by with_reducible assumption) | contradiction | apply And.intro | intro _)
    · apply hV [45] 80
      simp only [InR, InL, inb, Int.toNat_natCast, wp1, wpc_z, wpc_s, stp_iconst, stp_bipush, stp_sipush, stp_lconst, stp_iload_n, stp_iload, stp_lload_n, stp_lload, stp_aload_n, stp_aload, stp_istore_n, stp_istore, stp_lstore_n, stp_lstore, stp_astore_n, stp_astore, stp_iinc, stp_iadd, stp_isub, stp_imul, stp_ineg, stp_idiv, stp_irem, stp_ladd, stp_lmul, stp_ldiv, stp_lrem, stp_ishl, stp_ishr, stp_iushr, stp_iand, stp_ior, stp_i2l, stp_i2b, stp_i2s, stp_lcmp, stp_dup, stp_dup2, stp_pop, stp_ifCond, stp_if_icmp, stp_goto, stp_tableswitch, stp_lookupswitch, stp_ldc, stp_ldc_w, stp_ldc2_w, stp_getstatic, stp_getfield, stp_putfield, stp_iaload, stp_baload, stp_iastore, stp_bastore, stp_aaload, stp_aastore, stp_invokevirtual, stp_invokestatic, stp_ireturn, stp_lreturn, stp_return_, lg, lset, okl, spl, wd, c1, cnd, tg, swT, swL, f4_0, f4_1, f4_2, f4_3, f2_0, f2_1, List.mem_cons, List.not_mem_nil, List.length_cons, List.length_nil, List.cons_append, List.nil_append, Nat.reduceAdd, Nat.reduceMul, Nat.reduceLT, Nat.reduceEqDiff, Nat.reduceLeDiff, Int.reduceAdd, Int.reduceNeg, Int.reduceToNat, Int.cast_ofNat_Int, Int.reduceNatCast, Int.toNat_zero, Int.toNat_one, Int.reduceLE, Int.reduceLT, Int.reduceEq, Int.zero_add, Int.add_zero, or_false, false_or, or_true, true_or, and_true, true_and, and_false, false_and, reduceIte, not_true_eq_false, not_false_eq_true, forall_const, false_implies, true_implies, implies_true, ne_eq, reduceCtorEq, List.all_cons, List.all_nil, Bool.and_true, Bool.and_self, decide_eq_true_eq, decide_true, dX5_drift_0, dX5_drift_1, dX5_drift_2, dX5_drift_5, dX5_drift_8, dX5_drift_11, dX5_drift_12, dX5_drift_13, dX5_drift_14, dX5_drift_17, dX5_drift_20, dX5_drift_21, dX5_drift_22, dX5_drift_23, dX5_drift_26, dX5_drift_29, dX5_drift_32, dX5_drift_34, dX5_drift_35, dX5_drift_36, dX5_drift_39, dX5_drift_40, dX5_drift_42, dX5_drift_43, dX5_drift_45, dX5_drift_47, dX5_drift_48, dX5_drift_51, dX5_drift_53, dX5_drift_55, dX5_drift_56, dX5_drift_59, dX5_drift_60, dX5_drift_62, dX5_drift_64, dX5_drift_66, dX5_drift_67, dX5_drift_70, dX5_drift_71, dX5_drift_73, dX5_drift_74, dX5_drift_77, dX5_drift_79, dX5_drift_80, dX5_drift_83, dX5_drift_86, dX5_drift_87, dX5_drift_89, dX5_drift_91, dX5_drift_92, dX5_drift_94, dX5_drift_95, dX5_drift_98, dX5_drift_99, dX5_drift_100, dX5_drift_103, dX5_drift_104, dX5_drift_107, dX5_drift_108, dX5_drift_111, dX5_drift_114, dX5_drift_115, dX5_drift_118, dX5_drift_119, dX5_drift_122, dX5_drift_125, dX5_drift_128, dX5_drift_129, dX5_drift_132, dX5_drift_133, dX5_drift_136, FX5_10, FX5_85, CX5_189, FX5_16, FX5_97, G_X5_drift_52, G_X5_drift_144, G_X5_drift_129, G_X5_drift_140, G_X5_drift_103, kd_0, kd_1, kd_8, T5_isOutside, T5_startTrial, r35]
      repeat' (first | exact trivial | omega | (with_reducible assumption) | exact absurd trivial (by with_reducible assumption) | contradiction | apply And.intro | intro _)
      refine ⟨f, hR, h35, fun ρ hρ => ?_⟩
      obtain ⟨a1, a2, a3, a4⟩ := hρ
      have h := lp_drift V K hV μ f hW h38 (by omega) s n' (by omega) w (by omega) hP hR (fun ν hν => by
        have hk := hK ν hν
        unfold driftR at hk
        rw [if_pos hc, if_neg h0, Int.toNat_natCast] at hk
        exact hk) n' 0 (by omega) ρ (a4.q hP) a1 a2 none
      exact h
  · have hk := hK μ (FQ.rf hP)
    unfold driftR at hk
    rw [if_neg hc] at hk
    apply hV [22] 80
    simp only [InR, InL, inb, Int.toNat_natCast, wp1, wpc_z, wpc_s, stp_iconst, stp_bipush, stp_sipush, stp_lconst, stp_iload_n, stp_iload, stp_lload_n, stp_lload, stp_aload_n, stp_aload, stp_istore_n, stp_istore, stp_lstore_n, stp_lstore, stp_astore_n, stp_astore, stp_iinc, stp_iadd, stp_isub, stp_imul, stp_ineg, stp_idiv, stp_irem, stp_ladd, stp_lmul, stp_ldiv, stp_lrem, stp_ishl, stp_ishr, stp_iushr, stp_iand, stp_ior, stp_i2l, stp_i2b, stp_i2s, stp_lcmp, stp_dup, stp_dup2, stp_pop, stp_ifCond, stp_if_icmp, stp_goto, stp_tableswitch, stp_lookupswitch, stp_ldc, stp_ldc_w, stp_ldc2_w, stp_getstatic, stp_getfield, stp_putfield, stp_iaload, stp_baload, stp_iastore, stp_bastore, stp_aaload, stp_aastore, stp_invokevirtual, stp_invokestatic, stp_ireturn, stp_lreturn, stp_return_, lg, lset, okl, spl, wd, c1, cnd, tg, swT, swL, f4_0, f4_1, f4_2, f4_3, f2_0, f2_1, List.mem_cons, List.not_mem_nil, List.length_cons, List.length_nil, List.cons_append, List.nil_append, Nat.reduceAdd, Nat.reduceMul, Nat.reduceLT, Nat.reduceEqDiff, Nat.reduceLeDiff, Int.reduceAdd, Int.reduceNeg, Int.reduceToNat, Int.cast_ofNat_Int, Int.reduceNatCast, Int.toNat_zero, Int.toNat_one, Int.reduceLE, Int.reduceLT, Int.reduceEq, Int.zero_add, Int.add_zero, or_false, false_or, or_true, true_or, and_true, true_and, and_false, false_and, reduceIte, not_true_eq_false, not_false_eq_true, forall_const, false_implies, true_implies, implies_true, ne_eq, reduceCtorEq, List.all_cons, List.all_nil, Bool.and_true, Bool.and_self, decide_eq_true_eq, decide_true, dX5_drift_0, dX5_drift_1, dX5_drift_2, dX5_drift_5, dX5_drift_8, dX5_drift_11, dX5_drift_12, dX5_drift_13, dX5_drift_14, dX5_drift_17, dX5_drift_20, dX5_drift_21, dX5_drift_22, dX5_drift_23, dX5_drift_26, dX5_drift_29, dX5_drift_32, dX5_drift_34, dX5_drift_35, dX5_drift_36, dX5_drift_39, dX5_drift_40, dX5_drift_42, dX5_drift_43, dX5_drift_45, dX5_drift_47, dX5_drift_48, dX5_drift_51, dX5_drift_53, dX5_drift_55, dX5_drift_56, dX5_drift_59, dX5_drift_60, dX5_drift_62, dX5_drift_64, dX5_drift_66, dX5_drift_67, dX5_drift_70, dX5_drift_71, dX5_drift_73, dX5_drift_74, dX5_drift_77, dX5_drift_79, dX5_drift_80, dX5_drift_83, dX5_drift_86, dX5_drift_87, dX5_drift_89, dX5_drift_91, dX5_drift_92, dX5_drift_94, dX5_drift_95, dX5_drift_98, dX5_drift_99, dX5_drift_100, dX5_drift_103, dX5_drift_104, dX5_drift_107, dX5_drift_108, dX5_drift_111, dX5_drift_114, dX5_drift_115, dX5_drift_118, dX5_drift_119, dX5_drift_122, dX5_drift_125, dX5_drift_128, dX5_drift_129, dX5_drift_132, dX5_drift_133, dX5_drift_136, FX5_10, FX5_85, CX5_189, FX5_16, FX5_97, G_X5_drift_52, G_X5_drift_144, G_X5_drift_129, G_X5_drift_140, G_X5_drift_103, kd_0, kd_1, kd_8, T5_isOutside]
    repeat' (first | exact trivial | omega | (with_reducible assumption) | exact absurd trivial (by with_reducible assumption) | contradiction | apply And.intro | intro _)
theorem good_X5_drift (l : Launch) : Good l 4 yX5_drift cX5_drift 7 (some .int) T5_drift := by
  refine Good.mk 1 (by decide) rfl (by simp [retOK]) FOK5 COK5 (gk_X5_drift l) ?_ ?_
  · intro a μ K h
    unfold T5_drift at h
    split at h
    · simp [entl]
    · exact h.elim
  · intro a μ K V hV h
    unfold T5_drift at h
    split at h
    · exact body_X5_drift _ _ _ _ μ K V hV h
    · exact h.elim

def MDR (μ ν : Mem) (s : Int) (n : Nat) : Prop := Eq39 (rI ν 68) (drF (rI μ 67) s n) ∧ (0 ≤ rI ν 68 39 ∧ rI ν 68 39 ≤ 999999) ∧ (0 ≤ rI ν 68 40 ∧ rI ν 68 40 ≤ 999999) ∧ rI ν 66 14 = drS (rI μ 67) s n ∧ rI ν 66 13 = -4 ∧ MF μ ν
def GL_X6_drift : List (Nat × Nat × Bool × TT) := [(59, 3, true, T6_in), (218, 1, true, T6_isPart), (174, 1, false, T6_starts), (167, 3, false, T6_comesTo), (170, 2, false, T6_visitGoes), (177, 2, false, T6_sumOf)]
def G_X6_drift : Nat → Option (Nat × Bool × TT) := fun i => GL_X6_drift.lookup i
theorem G_X6_drift_59 : G_X6_drift 59 = some (3, true, T6_in) := rfl
theorem G_X6_drift_218 : G_X6_drift 218 = some (1, true, T6_isPart) := rfl
theorem G_X6_drift_174 : G_X6_drift 174 = some (1, false, T6_starts) := rfl
theorem G_X6_drift_167 : G_X6_drift 167 = some (3, false, T6_comesTo) := rfl
theorem G_X6_drift_170 : G_X6_drift 170 = some (2, false, T6_visitGoes) := rfl
theorem G_X6_drift_177 : G_X6_drift 177 = some (2, false, T6_sumOf) := rfl

set_option maxRecDepth 20000 in
set_option maxHeartbeats 4000000 in
theorem lp_mdrift (V : Nat → List (Option AV) → List AV → Mem → Prop) (K : List AV → Mem → Prop) (hV : Clos FX6 CX6 G_X6_drift 1 K cX6_drift V) (μ : Mem) (hQ : MOK μ) (h0 : 0 < rI μ 67 35) (s : Int) (e : Nat) (he : e ≤ 200) (w : Int) (hw : 0 ≤ w ∧ w ≤ 1) (hK : ∀ ν, MF μ ν → K [.inl (if w = 0 then drS (rI μ 67) s e else sumF (drF (rI μ 67) s e) 1 (rI μ 67 35).toNat)] ν) : ∀ m n : Nat, n + m = e → ∀ ν, MDR μ ν s n → ∀ x : Option AV, V 44 [some (.inr (.inr 66)), some (.inl s), some (.inl (e : Int)), some (.inl w), some (.inl (sdS s n)), some (.inl (n : Int)), x] [] ν := by
  obtain ⟨hW, h38, h39, h40⟩ := hQ
  have h35 := hW.1
  intro m
  induction m with
  | zero =>
    intro n hn ν hM x
    have en : n = e := by omega
    subst en
    obtain ⟨m1, m2, m3, m4, m5, m6⟩ := hM
    have hk := hK ν m6
    obtain ⟨⟨x1, x2, x3⟩, x4, x5⟩ := dr_WF s hW h0 n
    have e35 : rI ν 68 35 = rI μ 67 35 := by rw [m1 35 (by omega), x3]
    have esum : sumF (rI ν 68) 1 (rI μ 67 35).toNat = sumF (drF (rI μ 67) s n) 1 (rI μ 67 35).toNat := sumF_congr m1 (by omega) _ (by omega)
    apply hV [44] 60
    simp only [InR, InL, inb, Int.toNat_natCast, wp1, wpc_z, wpc_s, stp_iconst, stp_bipush, stp_sipush, stp_lconst, stp_iload_n, stp_iload, stp_lload_n, stp_lload, stp_aload_n, stp_aload, stp_istore_n, stp_istore, stp_lstore_n, stp_lstore, stp_astore_n, stp_astore, stp_iinc, stp_iadd, stp_isub, stp_imul, stp_ineg, stp_idiv, stp_irem, stp_ladd, stp_lmul, stp_ldiv, stp_lrem, stp_ishl, stp_ishr, stp_iushr, stp_iand, stp_ior, stp_i2l, stp_i2b, stp_i2s, stp_lcmp, stp_dup, stp_dup2, stp_pop, stp_ifCond, stp_if_icmp, stp_goto, stp_tableswitch, stp_lookupswitch, stp_ldc, stp_ldc_w, stp_ldc2_w, stp_getstatic, stp_getfield, stp_putfield, stp_iaload, stp_baload, stp_iastore, stp_bastore, stp_aaload, stp_aastore, stp_invokevirtual, stp_invokestatic, stp_ireturn, stp_lreturn, stp_return_, lg, lset, okl, spl, wd, c1, cnd, tg, swT, swL, f4_0, f4_1, f4_2, f4_3, f2_0, f2_1, List.mem_cons, List.not_mem_nil, List.length_cons, List.length_nil, List.cons_append, List.nil_append, Nat.reduceAdd, Nat.reduceMul, Nat.reduceLT, Nat.reduceEqDiff, Nat.reduceLeDiff, Int.reduceAdd, Int.reduceNeg, Int.reduceToNat, Int.cast_ofNat_Int, Int.reduceNatCast, Int.toNat_zero, Int.toNat_one, Int.reduceLE, Int.reduceLT, Int.reduceEq, Int.zero_add, Int.add_zero, or_false, false_or, or_true, true_or, and_true, true_and, and_false, false_and, reduceIte, not_true_eq_false, not_false_eq_true, forall_const, false_implies, true_implies, implies_true, ne_eq, reduceCtorEq, List.all_cons, List.all_nil, Bool.and_true, Bool.and_self, decide_eq_true_eq, decide_true, dX6_drift_0, dX6_drift_1, dX6_drift_2, dX6_drift_3, dX6_drift_6, dX6_drift_9, dX6_drift_12, dX6_drift_13, dX6_drift_16, dX6_drift_19, dX6_drift_20, dX6_drift_21, dX6_drift_22, dX6_drift_25, dX6_drift_27, dX6_drift_28, dX6_drift_31, dX6_drift_33, dX6_drift_34, dX6_drift_35, dX6_drift_37, dX6_drift_38, dX6_drift_41, dX6_drift_42, dX6_drift_44, dX6_drift_46, dX6_drift_47, dX6_drift_50, dX6_drift_52, dX6_drift_55, dX6_drift_56, dX6_drift_59, dX6_drift_60, dX6_drift_62, dX6_drift_64, dX6_drift_66, dX6_drift_67, dX6_drift_70, dX6_drift_71, dX6_drift_73, dX6_drift_74, dX6_drift_76, dX6_drift_77, dX6_drift_80, dX6_drift_82, dX6_drift_83, dX6_drift_84, dX6_drift_86, dX6_drift_88, dX6_drift_89, dX6_drift_91, dX6_drift_92, dX6_drift_95, dX6_drift_96, dX6_drift_97, dX6_drift_98, dX6_drift_101, dX6_drift_104, dX6_drift_107, dX6_drift_108, dX6_drift_111, dX6_drift_112, dX6_drift_115, dX6_drift_118, dX6_drift_119, dX6_drift_120, dX6_drift_123, CX6_203, FX6_7, CX6_271, FX6_132, G_X6_drift_59, G_X6_drift_218, G_X6_drift_174, G_X6_drift_167, G_X6_drift_170, G_X6_drift_177, kd_66, kd_67, ln_67, m4, T6_sumOf, e35, esum]
    by_cases w0 : w = 0
    · rw [if_pos w0] at hk
      repeat' (first | exact trivial | omega | (with_reducible assumption) | exact absurd trivial (by with_reducible assumption) | contradiction | apply And.intro | intro _)
    · rw [if_neg w0] at hk
      repeat' (first | exact trivial | omega | (with_reducible assumption) | exact absurd trivial (by with_reducible assumption) | contradiction | apply And.intro | intro _)
  | succ m ih =>
    intro n hn ν hM x
    obtain ⟨m1, m2, m3, m4, m5, m6⟩ := hM
    obtain ⟨⟨x1, x2, x3⟩, x4, x5⟩ := dr_WF s hW h0 n
    have hgi := gotS_in s n
    obtain ⟨hi, hi2⟩ := drI_in s n h0
    have hm := drM_in s n
    have hm2 : gotS s n / 8 % 10 = drM s n := rfl
    have hg : Int.bmod (sdS s n * 1103515245 + 12345) 4294967296 / 65536 % 32768 = gotS s n := bm_got _
    have e67 : rI ν 67 35 = rI μ 67 35 := m6.1 67 (by omega) (by omega) (by omega) (by omega) (by omega) 35
    generalize hI : drI (rI μ 67) s n = i at hi hi2
    generalize hMm : drM s n = g at hm hm2
    have v1 : rI ν 68 (7 * i + 1) = drF (rI μ 67) s n (7 * i + 1) := m1 _ (by omega)
    have hs := (x1.2.2.2 i (by rw [x3]; exact hi2)).2.1
    obtain ⟨p1, p2, p3⟩ := ptX_WF x1 (i := i) (by rw [x3]; exact hi2) hm.1
    have fin : ∀ κ : Mem, κ = wI (wI (wI ν 68 (7 * i + 1) (drF (rI μ 67) s n (7 * i + 1) + min g (99 - drF (rI μ 67) s n (7 * i + 1)))) 66 16 (rI ν 66 16 + (g - min g (99 - drF (rI μ 67) s n (7 * i + 1))))) 68 40 (min 999999 (rI ν 68 40 + (g - min g (99 - drF (rI μ 67) s n (7 * i + 1))))) → WF (rI κ 68) ∧ rI κ 68 38 ≤ 20000 ∧ (0 ≤ rI κ 68 39 ∧ rI κ 68 39 ≤ 999999) ∧ (0 ≤ rI κ 68 40 ∧ rI κ 68 40 ≤ 999999) ∧ rI κ 66 13 = -4 ∧ rI κ 68 36 ≠ -4 ∧ ∀ ρ, VP κ ρ true → V 44 [some (.inr (.inr 66)), some (.inl s), some (.inl (e : Int)), some (.inl w), some (.inl (sdS s n * 1103515245 + 12345)), some (.inl ((n : Int) + 1)), some (.inl (gotS s n))] [] ρ := by
      intro κ hκ
      have hE : Eq39 (rI κ 68) (ptX (drF (rI μ 67) s n) i g) := by
        intro y hy
        rw [hκ, rI_wI, if_neg (by omega), rI_wI, if_neg (by omega), rI_wI]
        unfold ptX upF
        by_cases ey : y = 7 * i + 1
        · rw [if_pos ⟨rfl, ey⟩, if_pos ey]
        · rw [if_neg (fun z => ey z.2), if_neg ey]; exact m1 y hy
      have hWκ : WF (rI κ 68) := p1.of hE.sy
      have k39 : rI κ 68 39 = rI ν 68 39 := by rw [hκ, rI_wI, if_neg (by omega), rI_wI, if_neg (by omega), rI_wI, if_neg (by omega)]
      have k40 : rI κ 68 40 = min 999999 (rI ν 68 40 + (g - min g (99 - drF (rI μ 67) s n (7 * i + 1)))) := by rw [hκ, rI_wI, if_pos ⟨rfl, rfl⟩]
      have k13 : rI κ 66 13 = -4 := by rw [hκ, rI_wI, if_neg (by omega), rI_wI, if_neg (by omega), rI_wI, if_neg (by omega), m5]
      have k14 : rI κ 66 14 = rI ν 66 14 := by rw [hκ, rI_wI, if_neg (by omega), rI_wI, if_neg (by omega), rI_wI, if_neg (by omega)]
      have hMF : MF μ κ := by
        rw [hκ]
        refine m6.tr ⟨fun k a b c d f j => ?_, fun j hj => ?_, fun _ _ => rfl⟩
        · rw [rI_wI, if_neg (fun z => b z.1), rI_wI, if_neg (fun z => a z.1), rI_wI, if_neg (fun z => b z.1)]
        · rw [rI_wI, if_neg (by omega), rI_wI, if_neg (by omega), rI_wI, if_neg (by omega)]
      have h36 := hWκ.2.1 (by rw [hE 35 (by omega), p3, x3]; omega)
      refine ⟨hWκ, by rw [hE 38 (by omega), p2, x2]; omega, by rw [k39]; exact m2, by rw [k40]; omega, k13, by omega, fun ρ hρ => ?_⟩
      obtain ⟨b1, b2, b3, b4, b5, b6, b7, b8, b9, b10, b11⟩ := hρ
      have hc := nxt_congr hWκ hE true
      have hsn := snd_in hWκ true
      have hln := lst_nn true hWκ
      have hsc := snd_congr hWκ hE true
      have h := ih (n + 1) (by omega) ρ ⟨fun y hy => by
          rw [b1 y hy, hc.1 y hy]
          show _ = nxt (ptX (drF (rI μ 67) s n) (drI (rI μ 67) s n) (drM s n)) true y
          rw [hI, hMm], by rw [b2, k39]; omega, by rw [b3, k40]; omega, by
          rw [b5, k14, m4, hsc]
          show _ = drS (rI μ 67) s n + sndI (ptX (drF (rI μ 67) s n) (drI (rI μ 67) s n) (drM s n)) true
          rw [hI, hMm], by rw [b8 13 (by omega) (by omega) (by omega), k13], hMF.tr ⟨fun k a b c _ _ j => b10 k a b c j, fun j hj => b8 j (by omega) (by omega) (by omega), b11⟩⟩ (some (.inl (gotS s n)))
      rw [show ((n + 1 : Nat) : Int) = (n : Int) + 1 by omega] at h
      exact h
    obtain ⟨f1, f2, f3, f4, f5, f6, f7⟩ := fin _ rfl
    apply hV [44] 60
    simp only [InR, InL, inb, Int.toNat_natCast, wp1, wpc_z, wpc_s, stp_iconst, stp_bipush, stp_sipush, stp_lconst, stp_iload_n, stp_iload, stp_lload_n, stp_lload, stp_aload_n, stp_aload, stp_istore_n, stp_istore, stp_lstore_n, stp_lstore, stp_astore_n, stp_astore, stp_iinc, stp_iadd, stp_isub, stp_imul, stp_ineg, stp_idiv, stp_irem, stp_ladd, stp_lmul, stp_ldiv, stp_lrem, stp_ishl, stp_ishr, stp_iushr, stp_iand, stp_ior, stp_i2l, stp_i2b, stp_i2s, stp_lcmp, stp_dup, stp_dup2, stp_pop, stp_ifCond, stp_if_icmp, stp_goto, stp_tableswitch, stp_lookupswitch, stp_ldc, stp_ldc_w, stp_ldc2_w, stp_getstatic, stp_getfield, stp_putfield, stp_iaload, stp_baload, stp_iastore, stp_bastore, stp_aaload, stp_aastore, stp_invokevirtual, stp_invokestatic, stp_ireturn, stp_lreturn, stp_return_, lg, lset, okl, spl, wd, c1, cnd, tg, swT, swL, f4_0, f4_1, f4_2, f4_3, f2_0, f2_1, List.mem_cons, List.not_mem_nil, List.length_cons, List.length_nil, List.cons_append, List.nil_append, Nat.reduceAdd, Nat.reduceMul, Nat.reduceLT, Nat.reduceEqDiff, Nat.reduceLeDiff, Int.reduceAdd, Int.reduceNeg, Int.reduceToNat, Int.cast_ofNat_Int, Int.reduceNatCast, Int.toNat_zero, Int.toNat_one, Int.reduceLE, Int.reduceLT, Int.reduceEq, Int.zero_add, Int.add_zero, or_false, false_or, or_true, true_or, and_true, true_and, and_false, false_and, reduceIte, not_true_eq_false, not_false_eq_true, forall_const, false_implies, true_implies, implies_true, ne_eq, reduceCtorEq, List.all_cons, List.all_nil, Bool.and_true, Bool.and_self, decide_eq_true_eq, decide_true, dX6_drift_0, dX6_drift_1, dX6_drift_2, dX6_drift_3, dX6_drift_6, dX6_drift_9, dX6_drift_12, dX6_drift_13, dX6_drift_16, dX6_drift_19, dX6_drift_20, dX6_drift_21, dX6_drift_22, dX6_drift_25, dX6_drift_27, dX6_drift_28, dX6_drift_31, dX6_drift_33, dX6_drift_34, dX6_drift_35, dX6_drift_37, dX6_drift_38, dX6_drift_41, dX6_drift_42, dX6_drift_44, dX6_drift_46, dX6_drift_47, dX6_drift_50, dX6_drift_52, dX6_drift_55, dX6_drift_56, dX6_drift_59, dX6_drift_60, dX6_drift_62, dX6_drift_64, dX6_drift_66, dX6_drift_67, dX6_drift_70, dX6_drift_71, dX6_drift_73, dX6_drift_74, dX6_drift_76, dX6_drift_77, dX6_drift_80, dX6_drift_82, dX6_drift_83, dX6_drift_84, dX6_drift_86, dX6_drift_88, dX6_drift_89, dX6_drift_91, dX6_drift_92, dX6_drift_95, dX6_drift_96, dX6_drift_97, dX6_drift_98, dX6_drift_101, dX6_drift_104, dX6_drift_107, dX6_drift_108, dX6_drift_111, dX6_drift_112, dX6_drift_115, dX6_drift_118, dX6_drift_119, dX6_drift_120, dX6_drift_123, CX6_203, FX6_7, CX6_271, FX6_132, G_X6_drift_59, G_X6_drift_218, G_X6_drift_174, G_X6_drift_167, G_X6_drift_170, G_X6_drift_177, kd_66, kd_67, ln_67, e67, T6_comesTo, T6_visitGoes, Int.reducePow, hg, hi, hm2, v1, f5]
    repeat' (first | exact trivial | omega | (with_reducible assumption) | exact absurd trivial (by with_reducible assumption) | contradiction | apply And.intro | intro _)
    all_goals first | exact f7 _ (by rename_i h; simpa [f6] using h) | skip
def T6_drift : TT := fun a μ K => match a with
  | [.inr (.inr o), .inl s, .inl n, .inl w] => o = 66 ∧ (InR s ∧ InR n ∧ InR w ∧ MOK μ ∧ ∀ ν, MF μ ν → K [.inl (driftR (rI μ 67) s n w)] ν)
  | _ => False
theorem rec_X6_drift : ∀ a μ K, T6_drift a μ K → ∃ k r, a = .inr (.inr k) :: r ∧ kd k = 6 := by
  intro a μ K h
  unfold T6_drift at h
  split at h
  · exact ⟨_, _, rfl, by rw [h.1]; rfl⟩
  · exact h.elim
theorem gk_X6_drift (l : Launch) : ∀ i n b T, G_X6_drift i = some (n, b, T) → CallOK l 4 RX6 i n b T := by
  intro i n b T h
  have hm : (i, n, b, T) ∈ GL_X6_drift := lk_mem h
  simp only [GL_X6_drift, List.mem_cons, List.not_mem_nil, or_false, Prod.mk.injEq] at hm
  rcases hm with ⟨rfl, rfl, rfl, rfl⟩ | ⟨rfl, rfl, rfl, rfl⟩ | ⟨rfl, rfl, rfl, rfl⟩ | ⟨rfl, rfl, rfl, rfl⟩ | ⟨rfl, rfl, rfl, rfl⟩ | ⟨rfl, rfl, rfl, rfl⟩
  · exact CallOK.S (d := 4) (own := RX6) (i := 59) (n := 3) (good_X6_in l) (by decide) (by decide) (mg 708 (by decide +kernel) (by decide +kernel)) (mg 709 (by decide +kernel) (by decide +kernel)) (mg 7 (by decide +kernel) (by decide +kernel)) (mg 710 (by decide +kernel) (by decide +kernel)) (by decide +kernel)
  · exact CallOK.S (d := 4) (own := RX6) (i := 218) (n := 1) (good_X6_isPart l) (by decide) (by decide) (mg 882 (by decide +kernel) (by decide +kernel)) (mg 883 (by decide +kernel) (by decide +kernel)) (mg 7 (by decide +kernel) (by decide +kernel)) (mg 884 (by decide +kernel) (by decide +kernel)) (by decide +kernel)
  · exact CallOK.V (d := 4) (own := RX6) (i := 174) (n := 0) (ci := 6) (good_X6_starts l) (by decide) (by decide) rfl (by decide) rec_X6_starts (mg 769 (by decide +kernel) (by decide +kernel)) (mg 771 (by decide +kernel) (by decide +kernel)) (mgs 33 (by decide +kernel) (by decide +kernel)) (mg 7 (by decide +kernel) (by decide +kernel)) (mg 772 (by decide +kernel) (by decide +kernel)) (by decide +kernel)
  · exact CallOK.V (d := 4) (own := RX6) (i := 167) (n := 2) (ci := 6) (good_X6_comesTo l) (by decide) (by decide) rfl (by decide) rec_X6_comesTo (mg 819 (by decide +kernel) (by decide +kernel)) (mg 821 (by decide +kernel) (by decide +kernel)) (mgs 40 (by decide +kernel) (by decide +kernel)) (mg 7 (by decide +kernel) (by decide +kernel)) (mg 822 (by decide +kernel) (by decide +kernel)) (by decide +kernel)
  · exact CallOK.V (d := 4) (own := RX6) (i := 170) (n := 1) (ci := 6) (good_X6_visitGoes l) (by decide) (by decide) rfl (by decide) rec_X6_visitGoes (mg 853 (by decide +kernel) (by decide +kernel)) (mg 855 (by decide +kernel) (by decide +kernel)) (mgs 46 (by decide +kernel) (by decide +kernel)) (mg 7 (by decide +kernel) (by decide +kernel)) (mg 856 (by decide +kernel) (by decide +kernel)) (by decide +kernel)
  · exact CallOK.V (d := 4) (own := RX6) (i := 177) (n := 1) (ci := 6) (good_X6_sumOf l) (by decide) (by decide) rfl (by decide) rec_X6_sumOf (mg 773 (by decide +kernel) (by decide +kernel)) (mg 775 (by decide +kernel) (by decide +kernel)) (mgs 34 (by decide +kernel) (by decide +kernel)) (mg 7 (by decide +kernel) (by decide +kernel)) (mg 776 (by decide +kernel) (by decide +kernel)) (by decide +kernel)
set_option maxRecDepth 20000 in
set_option maxHeartbeats 4000000 in
theorem body_X6_drift (o : Nat) (s : Int) (n : Int) (w : Int) (μ : Mem) (K : List AV → Mem → Prop) (V : Nat → List (Option AV) → List AV → Mem → Prop) (hV : Clos FX6 CX6 G_X6_drift 1 K cX6_drift V) (hT : o = 66 ∧ (InR s ∧ InR n ∧ InR w ∧ MOK μ ∧ ∀ ν, MF μ ν → K [.inl (driftR (rI μ 67) s n w)] ν)) : V 0 [some (.inr (.inr o)), some (.inl s), some (.inl n), some (.inl w), none, none, none] [] μ := by
  simp only [InR] at hT
  obtain ⟨rfl, hs, hn, hw, hQ, hK⟩ := hT
  have hQ' := hQ
  obtain ⟨hW, h38, h39, h40⟩ := hQ
  have h35 := hW.1
  by_cases hc : (1 ≤ n ∧ n ≤ 200) ∧ 0 ≤ w ∧ w ≤ 1
  · obtain ⟨n', rfl⟩ := Int.eq_ofNat_of_zero_le (show 0 ≤ n by omega)
    by_cases h0 : rI μ 67 35 = 0
    · have hk := hK μ MF.rf
      unfold driftR at hk
      rw [if_pos hc, if_pos h0] at hk
      apply hV [34] 40
      simp only [InR, InL, inb, Int.toNat_natCast, wp1, wpc_z, wpc_s, stp_iconst, stp_bipush, stp_sipush, stp_lconst, stp_iload_n, stp_iload, stp_lload_n, stp_lload, stp_aload_n, stp_aload, stp_istore_n, stp_istore, stp_lstore_n, stp_lstore, stp_astore_n, stp_astore, stp_iinc, stp_iadd, stp_isub, stp_imul, stp_ineg, stp_idiv, stp_irem, stp_ladd, stp_lmul, stp_ldiv, stp_lrem, stp_ishl, stp_ishr, stp_iushr, stp_iand, stp_ior, stp_i2l, stp_i2b, stp_i2s, stp_lcmp, stp_dup, stp_dup2, stp_pop, stp_ifCond, stp_if_icmp, stp_goto, stp_tableswitch, stp_lookupswitch, stp_ldc, stp_ldc_w, stp_ldc2_w, stp_getstatic, stp_getfield, stp_putfield, stp_iaload, stp_baload, stp_iastore, stp_bastore, stp_aaload, stp_aastore, stp_invokevirtual, stp_invokestatic, stp_ireturn, stp_lreturn, stp_return_, lg, lset, okl, spl, wd, c1, cnd, tg, swT, swL, f4_0, f4_1, f4_2, f4_3, f2_0, f2_1, List.mem_cons, List.not_mem_nil, List.length_cons, List.length_nil, List.cons_append, List.nil_append, Nat.reduceAdd, Nat.reduceMul, Nat.reduceLT, Nat.reduceEqDiff, Nat.reduceLeDiff, Int.reduceAdd, Int.reduceNeg, Int.reduceToNat, Int.cast_ofNat_Int, Int.reduceNatCast, Int.toNat_zero, Int.toNat_one, Int.reduceLE, Int.reduceLT, Int.reduceEq, Int.zero_add, Int.add_zero, or_false, false_or, or_true, true_or, and_true, true_and, and_false, false_and, reduceIte, not_true_eq_false, not_false_eq_true, forall_const, false_implies, true_implies, implies_true, ne_eq, reduceCtorEq, List.all_cons, List.all_nil, Bool.and_true, Bool.and_self, decide_eq_true_eq, decide_true, dX6_drift_0, dX6_drift_1, dX6_drift_2, dX6_drift_3, dX6_drift_6, dX6_drift_9, dX6_drift_12, dX6_drift_13, dX6_drift_16, dX6_drift_19, dX6_drift_20, dX6_drift_21, dX6_drift_22, dX6_drift_25, dX6_drift_27, dX6_drift_28, dX6_drift_31, dX6_drift_33, dX6_drift_34, dX6_drift_35, dX6_drift_37, dX6_drift_38, dX6_drift_41, dX6_drift_42, dX6_drift_44, dX6_drift_46, dX6_drift_47, dX6_drift_50, dX6_drift_52, dX6_drift_55, dX6_drift_56, dX6_drift_59, dX6_drift_60, dX6_drift_62, dX6_drift_64, dX6_drift_66, dX6_drift_67, dX6_drift_70, dX6_drift_71, dX6_drift_73, dX6_drift_74, dX6_drift_76, dX6_drift_77, dX6_drift_80, dX6_drift_82, dX6_drift_83, dX6_drift_84, dX6_drift_86, dX6_drift_88, dX6_drift_89, dX6_drift_91, dX6_drift_92, dX6_drift_95, dX6_drift_96, dX6_drift_97, dX6_drift_98, dX6_drift_101, dX6_drift_104, dX6_drift_107, dX6_drift_108, dX6_drift_111, dX6_drift_112, dX6_drift_115, dX6_drift_118, dX6_drift_119, dX6_drift_120, dX6_drift_123, CX6_203, FX6_7, CX6_271, FX6_132, G_X6_drift_59, G_X6_drift_218, G_X6_drift_174, G_X6_drift_167, G_X6_drift_170, G_X6_drift_177, kd_66, kd_67, ln_67, T6_in, T6_isPart]
      repeat' (first | exact trivial | omega | (with_reducible assumption) | exact absurd trivial (by with_reducible assumption) | contradiction | apply And.intro | intro _)
    · have h := lp_mdrift V K hV μ hQ' (by omega) s n' (by omega) w (by omega) (fun ν hν => by
        have hk := hK ν hν
        unfold driftR at hk
        rw [if_pos hc, if_neg h0, Int.toNat_natCast] at hk
        exact hk) n' 0 (by omega) (stM μ) ⟨st_E μ, by rw [st_68 μ (by omega)]; exact h39, by rw [st_68 μ (by omega)]; exact h40, by rw [st_66]; simp [drS], by rw [st_66]; simp, st_MF μ⟩ none
      simp only [sdS] at h
      apply hV [44] 40
      simp only [InR, InL, inb, Int.toNat_natCast, wp1, wpc_z, wpc_s, stp_iconst, stp_bipush, stp_sipush, stp_lconst, stp_iload_n, stp_iload, stp_lload_n, stp_lload, stp_aload_n, stp_aload, stp_istore_n, stp_istore, stp_lstore_n, stp_lstore, stp_astore_n, stp_astore, stp_iinc, stp_iadd, stp_isub, stp_imul, stp_ineg, stp_idiv, stp_irem, stp_ladd, stp_lmul, stp_ldiv, stp_lrem, stp_ishl, stp_ishr, stp_iushr, stp_iand, stp_ior, stp_i2l, stp_i2b, stp_i2s, stp_lcmp, stp_dup, stp_dup2, stp_pop, stp_ifCond, stp_if_icmp, stp_goto, stp_tableswitch, stp_lookupswitch, stp_ldc, stp_ldc_w, stp_ldc2_w, stp_getstatic, stp_getfield, stp_putfield, stp_iaload, stp_baload, stp_iastore, stp_bastore, stp_aaload, stp_aastore, stp_invokevirtual, stp_invokestatic, stp_ireturn, stp_lreturn, stp_return_, lg, lset, okl, spl, wd, c1, cnd, tg, swT, swL, f4_0, f4_1, f4_2, f4_3, f2_0, f2_1, List.mem_cons, List.not_mem_nil, List.length_cons, List.length_nil, List.cons_append, List.nil_append, Nat.reduceAdd, Nat.reduceMul, Nat.reduceLT, Nat.reduceEqDiff, Nat.reduceLeDiff, Int.reduceAdd, Int.reduceNeg, Int.reduceToNat, Int.cast_ofNat_Int, Int.reduceNatCast, Int.toNat_zero, Int.toNat_one, Int.reduceLE, Int.reduceLT, Int.reduceEq, Int.zero_add, Int.add_zero, or_false, false_or, or_true, true_or, and_true, true_and, and_false, false_and, reduceIte, not_true_eq_false, not_false_eq_true, forall_const, false_implies, true_implies, implies_true, ne_eq, reduceCtorEq, List.all_cons, List.all_nil, Bool.and_true, Bool.and_self, decide_eq_true_eq, decide_true, dX6_drift_0, dX6_drift_1, dX6_drift_2, dX6_drift_3, dX6_drift_6, dX6_drift_9, dX6_drift_12, dX6_drift_13, dX6_drift_16, dX6_drift_19, dX6_drift_20, dX6_drift_21, dX6_drift_22, dX6_drift_25, dX6_drift_27, dX6_drift_28, dX6_drift_31, dX6_drift_33, dX6_drift_34, dX6_drift_35, dX6_drift_37, dX6_drift_38, dX6_drift_41, dX6_drift_42, dX6_drift_44, dX6_drift_46, dX6_drift_47, dX6_drift_50, dX6_drift_52, dX6_drift_55, dX6_drift_56, dX6_drift_59, dX6_drift_60, dX6_drift_62, dX6_drift_64, dX6_drift_66, dX6_drift_67, dX6_drift_70, dX6_drift_71, dX6_drift_73, dX6_drift_74, dX6_drift_76, dX6_drift_77, dX6_drift_80, dX6_drift_82, dX6_drift_83, dX6_drift_84, dX6_drift_86, dX6_drift_88, dX6_drift_89, dX6_drift_91, dX6_drift_92, dX6_drift_95, dX6_drift_96, dX6_drift_97, dX6_drift_98, dX6_drift_101, dX6_drift_104, dX6_drift_107, dX6_drift_108, dX6_drift_111, dX6_drift_112, dX6_drift_115, dX6_drift_118, dX6_drift_119, dX6_drift_120, dX6_drift_123, CX6_203, FX6_7, CX6_271, FX6_132, G_X6_drift_59, G_X6_drift_218, G_X6_drift_174, G_X6_drift_167, G_X6_drift_170, G_X6_drift_177, kd_66, kd_67, ln_67, T6_in, T6_isPart, T6_starts]
      repeat' (first | exact trivial | omega | (with_reducible assumption) | exact absurd trivial (by with_reducible assumption) | contradiction | apply And.intro | intro _)
  · have hk := hK μ MF.rf
    unfold driftR at hk
    rw [if_neg hc] at hk
    apply hV [21] 40
    simp only [InR, InL, inb, Int.toNat_natCast, wp1, wpc_z, wpc_s, stp_iconst, stp_bipush, stp_sipush, stp_lconst, stp_iload_n, stp_iload, stp_lload_n, stp_lload, stp_aload_n, stp_aload, stp_istore_n, stp_istore, stp_lstore_n, stp_lstore, stp_astore_n, stp_astore, stp_iinc, stp_iadd, stp_isub, stp_imul, stp_ineg, stp_idiv, stp_irem, stp_ladd, stp_lmul, stp_ldiv, stp_lrem, stp_ishl, stp_ishr, stp_iushr, stp_iand, stp_ior, stp_i2l, stp_i2b, stp_i2s, stp_lcmp, stp_dup, stp_dup2, stp_pop, stp_ifCond, stp_if_icmp, stp_goto, stp_tableswitch, stp_lookupswitch, stp_ldc, stp_ldc_w, stp_ldc2_w, stp_getstatic, stp_getfield, stp_putfield, stp_iaload, stp_baload, stp_iastore, stp_bastore, stp_aaload, stp_aastore, stp_invokevirtual, stp_invokestatic, stp_ireturn, stp_lreturn, stp_return_, lg, lset, okl, spl, wd, c1, cnd, tg, swT, swL, f4_0, f4_1, f4_2, f4_3, f2_0, f2_1, List.mem_cons, List.not_mem_nil, List.length_cons, List.length_nil, List.cons_append, List.nil_append, Nat.reduceAdd, Nat.reduceMul, Nat.reduceLT, Nat.reduceEqDiff, Nat.reduceLeDiff, Int.reduceAdd, Int.reduceNeg, Int.reduceToNat, Int.cast_ofNat_Int, Int.reduceNatCast, Int.toNat_zero, Int.toNat_one, Int.reduceLE, Int.reduceLT, Int.reduceEq, Int.zero_add, Int.add_zero, or_false, false_or, or_true, true_or, and_true, true_and, and_false, false_and, reduceIte, not_true_eq_false, not_false_eq_true, forall_const, false_implies, true_implies, implies_true, ne_eq, reduceCtorEq, List.all_cons, List.all_nil, Bool.and_true, Bool.and_self, decide_eq_true_eq, decide_true, dX6_drift_0, dX6_drift_1, dX6_drift_2, dX6_drift_3, dX6_drift_6, dX6_drift_9, dX6_drift_12, dX6_drift_13, dX6_drift_16, dX6_drift_19, dX6_drift_20, dX6_drift_21, dX6_drift_22, dX6_drift_25, dX6_drift_27, dX6_drift_28, dX6_drift_31, dX6_drift_33, dX6_drift_34, dX6_drift_35, dX6_drift_37, dX6_drift_38, dX6_drift_41, dX6_drift_42, dX6_drift_44, dX6_drift_46, dX6_drift_47, dX6_drift_50, dX6_drift_52, dX6_drift_55, dX6_drift_56, dX6_drift_59, dX6_drift_60, dX6_drift_62, dX6_drift_64, dX6_drift_66, dX6_drift_67, dX6_drift_70, dX6_drift_71, dX6_drift_73, dX6_drift_74, dX6_drift_76, dX6_drift_77, dX6_drift_80, dX6_drift_82, dX6_drift_83, dX6_drift_84, dX6_drift_86, dX6_drift_88, dX6_drift_89, dX6_drift_91, dX6_drift_92, dX6_drift_95, dX6_drift_96, dX6_drift_97, dX6_drift_98, dX6_drift_101, dX6_drift_104, dX6_drift_107, dX6_drift_108, dX6_drift_111, dX6_drift_112, dX6_drift_115, dX6_drift_118, dX6_drift_119, dX6_drift_120, dX6_drift_123, CX6_203, FX6_7, CX6_271, FX6_132, G_X6_drift_59, G_X6_drift_218, G_X6_drift_174, G_X6_drift_167, G_X6_drift_170, G_X6_drift_177, kd_66, T6_in, T6_isPart]
    repeat' (first | exact trivial | omega | (with_reducible assumption) | exact absurd trivial (by with_reducible assumption) | contradiction | apply And.intro | intro _)
theorem good_X6_drift (l : Launch) : Good l 4 yX6_drift cX6_drift 7 (some .int) T6_drift := by
  refine Good.mk 1 (by decide) rfl (by simp [retOK]) FOK6 COK6 (gk_X6_drift l) ?_ ?_
  · intro a μ K h
    unfold T6_drift at h
    split at h
    · simp [entl]
    · exact h.elim
  · intro a μ K V hV h
    unfold T6_drift at h
    split at h
    · exact body_X6_drift _ _ _ _ μ K V hV h
    · exact h.elim

