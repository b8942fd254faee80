/-! the reference: hold, begin, pass -/ 
def GL_X6_hold : List (Nat × Nat × Bool × TT) := [(180, 2, false, T6_isStation), (205, 1, true, T6_isFar), (218, 1, true, T6_isPart), (221, 2, false, T6_startsJudging), (174, 1, false, T6_starts), (152, 4, false, T6_becomesOf), (200, 2, false, T6_visitsGo), (224, 3, false, T6_judges), (231, 2, false, T6_judged)]
def G_X6_hold : Nat → Option (Nat × Bool × TT) := fun i => GL_X6_hold.lookup i
theorem G_X6_hold_180 : G_X6_hold 180 = some (2, false, T6_isStation) := rfl
theorem G_X6_hold_205 : G_X6_hold 205 = some (1, true, T6_isFar) := rfl
theorem G_X6_hold_218 : G_X6_hold 218 = some (1, true, T6_isPart) := rfl
theorem G_X6_hold_221 : G_X6_hold 221 = some (2, false, T6_startsJudging) := rfl
theorem G_X6_hold_174 : G_X6_hold 174 = some (1, false, T6_starts) := rfl
theorem G_X6_hold_152 : G_X6_hold 152 = some (4, false, T6_becomesOf) := rfl
theorem G_X6_hold_200 : G_X6_hold 200 = some (2, false, T6_visitsGo) := rfl
theorem G_X6_hold_224 : G_X6_hold 224 = some (3, false, T6_judges) := rfl
theorem G_X6_hold_231 : G_X6_hold 231 = some (2, false, T6_judged) := rfl

set_option maxRecDepth 20000 in
set_option maxHeartbeats 4000000 in
theorem lp_mhold (V : Nat → List (Option AV) → List AV → Mem → Prop) (K : List AV → Mem → Prop) (hV : Clos FX6 CX6 G_X6_hold 1 K cX6_hold V) (μ : Mem) (hQ : MOK μ) (i : Nat) (hi : (i : Int) < rI μ 67 35) (e : Nat) (he : e ≤ 200) (w : Int) (hw : 0 ≤ w ∧ w ≤ 1) (hK : ∀ ν, MF μ ν → K [.inl (jdA (jd holdC (holdU (rI μ 67) i e) 1000000000 9) w)] ν) : ∀ m n : Nat, n + m = 9 → ∀ ν, MF μ ν → (rI ν 66 18, rI ν 66 19) = jd holdC (holdU (rI μ 67) i e) 1000000000 n → V 33 [some (.inr (.inr 66)), some (.inl (i : Int)), some (.inl (e : Int)), some (.inl w), some (.inl ((n : Int) + 1))] [] ν := by
  obtain ⟨hW, h38, h39, h40⟩ := hQ
  have h35 := hW.1
  have hu : ∀ v : Nat, v < 9 → 0 ≤ holdU (rI μ 67) i e v ∧ holdU (rI μ 67) i e v ≤ 27000 := by
    intro v hv
    have := (sum_in (p := yes) (hW.set (t := 2) hi (by omega) (v := (v : Int) + 1) ⟨fun z => by omega, fun z => by omega, fun _ => by omega, fun z => by omega, fun z => by omega⟩) e).2.1
    unfold holdU
    omega
  have hj := fun (n : Nat) (hn : n ≤ 9) => jd_rg (c := holdC) (u := holdU (rI μ 67) i e) (b := 1000000000) (lo := 0) (hi := 27000) (lc := 0) (hc := 9) (fun n => by show (n : Int) + 1 ≠ -4; omega) n (fun k hk => hu k (by omega)) (fun k hk => ⟨by show 0 ≤ (k : Int) + 1; omega, by show (k : Int) + 1 ≤ 9; omega⟩)
  intro m
  induction m with
  | zero =>
    intro n hn ν hF hq
    have en : n = 9 := by omega
    subst en
    have hk := hK ν hF
    have hjn := hj 9 (by omega)
    rw [← hq] at hk hjn
    have hrg : -4 ≤ rI ν 66 18 ∧ rI ν 66 18 ≤ 9 := by
      by_cases z : rI ν 66 18 = -4
      · omega
      · have := hjn.2 z; simp only at this; omega
    apply hV [33] 40
    simp only [InR, InL, inb, Int.toNat_natCast, wp1, wpc_z, wpc_s, stp_iconst, stp_bipush, stp_sipush, stp_lconst, stp_iload_n, stp_iload, stp_lload_n, stp_lload, stp_aload_n, stp_aload, stp_istore_n, stp_istore, stp_lstore_n, stp_lstore, stp_astore_n, stp_astore, stp_iinc, stp_iadd, stp_isub, stp_imul, stp_ineg, stp_idiv, stp_irem, stp_ladd, stp_lmul, stp_ldiv, stp_lrem, stp_ishl, stp_ishr, stp_iushr, stp_iand, stp_ior, stp_i2l, stp_i2b, stp_i2s, stp_lcmp, stp_dup, stp_dup2, stp_pop, stp_ifCond, stp_if_icmp, stp_goto, stp_tableswitch, stp_lookupswitch, stp_ldc, stp_ldc_w, stp_ldc2_w, stp_getstatic, stp_getfield, stp_putfield, stp_iaload, stp_baload, stp_iastore, stp_bastore, stp_aaload, stp_aastore, stp_invokevirtual, stp_invokestatic, stp_ireturn, stp_lreturn, stp_return_, lg, lset, okl, spl, wd, c1, cnd, tg, swT, swL, f4_0, f4_1, f4_2, f4_3, f2_0, f2_1, List.mem_cons, List.not_mem_nil, List.length_cons, List.length_nil, List.cons_append, List.nil_append, Nat.reduceAdd, Nat.reduceMul, Nat.reduceLT, Nat.reduceEqDiff, Nat.reduceLeDiff, Int.reduceAdd, Int.reduceNeg, Int.reduceToNat, Int.cast_ofNat_Int, Int.reduceNatCast, Int.toNat_zero, Int.toNat_one, Int.reduceLE, Int.reduceLT, Int.reduceEq, Int.zero_add, Int.add_zero, or_false, false_or, or_true, true_or, and_true, true_and, and_false, false_and, reduceIte, not_true_eq_false, not_false_eq_true, forall_const, false_implies, true_implies, implies_true, ne_eq, reduceCtorEq, List.all_cons, List.all_nil, Bool.and_true, Bool.and_self, decide_eq_true_eq, decide_true, dX6_hold_0, dX6_hold_1, dX6_hold_2, dX6_hold_5, dX6_hold_8, dX6_hold_9, dX6_hold_12, dX6_hold_15, dX6_hold_16, dX6_hold_19, dX6_hold_22, dX6_hold_23, dX6_hold_24, dX6_hold_25, dX6_hold_27, dX6_hold_30, dX6_hold_31, dX6_hold_33, dX6_hold_35, dX6_hold_37, dX6_hold_40, dX6_hold_41, dX6_hold_44, dX6_hold_45, dX6_hold_46, dX6_hold_47, dX6_hold_49, dX6_hold_52, dX6_hold_53, dX6_hold_54, dX6_hold_57, dX6_hold_58, dX6_hold_60, dX6_hold_61, dX6_hold_64, dX6_hold_67, dX6_hold_70, dX6_hold_73, dX6_hold_74, dX6_hold_75, dX6_hold_78, CX6_230, FX6_138, G_X6_hold_180, G_X6_hold_205, G_X6_hold_218, G_X6_hold_221, G_X6_hold_174, G_X6_hold_152, G_X6_hold_200, G_X6_hold_224, G_X6_hold_231, kd_66, T6_judged]
    repeat' (first | exact trivial | omega | (with_reducible assumption) | exact absurd trivial (by with_reducible assumption) | contradiction | apply And.intro | intro _)
  | succ m ih =>
    intro n hn ν hF hq
    have hun := hu n (by omega)
    have hjn := hj n (by omega)
    have key := fun σ hσ => ih (n + 1) (by omega) σ hσ
    rw [show ((n + 1 : Nat) : Int) = (n : Int) + 1 by omega, jd_s, ← hq] at key
    rw [← hq] at hjn
    have hrg : 0 ≤ rI ν 66 19 ∧ rI ν 66 19 ≤ 1000000000 := by
      by_cases z : rI ν 66 18 = -4
      · have := (hjn.1 z).1; simp only at this; omega
      · have := hjn.2 z; simp only at this; omega
    clear hjn
    have e67 : rI ν 67 = rI μ 67 := funext (fun j => hF.1 67 (by omega) (by omega) (by omega) (by omega) (by omega) j)
    have hW2 : WF (upF (rI μ 67) (7 * i + 2) ((n : Int) + 1)) := hW.set (t := 2) hi (by omega) (v := (n : Int) + 1) ⟨fun z => by omega, fun z => by omega, fun _ => by omega, fun z => by omega, fun z => by omega⟩
    have hE : Eq39 (rI (wI (stM ν) 68 (7 * i + 2) ((n : Int) + 1)) 68) (upF (rI μ 67) (7 * i + 2) ((n : Int) + 1)) := by
      intro x hx
      rw [rI_wI]
      unfold upF
      by_cases ex : x = 7 * i + 2
      · rw [if_pos ⟨rfl, ex⟩, if_pos ex]
      · rw [if_neg (fun z => ex z.2), if_neg ex, st_68 ν (by omega), e67]
    have g38 : rI (wI (stM ν) 68 (7 * i + 2) ((n : Int) + 1)) 68 38 = rI μ 67 38 := by rw [rI_wI, if_neg (by omega), st_68 ν (by omega), e67]
    have g39 : rI (wI (stM ν) 68 (7 * i + 2) ((n : Int) + 1)) 68 39 = rI μ 67 39 := by rw [rI_wI, if_neg (by omega), st_68 ν (by omega), e67]
    have g40 : rI (wI (stM ν) 68 (7 * i + 2) ((n : Int) + 1)) 68 40 = rI μ 67 40 := by rw [rI_wI, if_neg (by omega), st_68 ν (by omega), e67]
    have g66 : ∀ j, rI (wI (stM ν) 68 (7 * i + 2) ((n : Int) + 1)) 66 j = rI (stM ν) 66 j := fun j => by rw [rI_wI, if_neg (by omega)]
    have g13 : rI (wI (stM ν) 68 (7 * i + 2) ((n : Int) + 1)) 66 13 = -4 := by rw [g66, st_66]; simp
    have hW3 : WF (rI (wI (stM ν) 68 (7 * i + 2) ((n : Int) + 1)) 68) := hW2.of hE.sy
    have fin : ∀ ρ, MGR (psd (-4)) (wI (stM ν) 68 (7 * i + 2) ((n : Int) + 1)) ρ e → rI ρ 66 16 = holdU (rI μ 67) i e n ∧ rI ρ 66 19 = rI ν 66 19 ∧ (holdU (rI μ 67) i e n < rI ν 66 19 → V 33 [some (.inr (.inr 66)), some (.inl (i : Int)), some (.inl (e : Int)), some (.inl w), some (.inl ((n : Int) + 1 + 1))] [] (wI (wI ρ 66 18 ((n : Int) + 1)) 66 19 (holdU (rI μ 67) i e n))) ∧ (¬ holdU (rI μ 67) i e n < rI ν 66 19 → V 33 [some (.inr (.inr 66)), some (.inl (i : Int)), some (.inl (e : Int)), some (.inl w), some (.inl ((n : Int) + 1 + 1))] [] ρ) := by
      intro ρ hρ
      obtain ⟨m1, m2, m3, m4, m5⟩ := mrun hE hW2 (by rw [g66, st_66]; simp) (by rw [g66, st_66]; simp) (by rw [g66, st_66]; simp) hρ
      obtain ⟨p1, p2, p3⟩ := nx_psd4 hW2 e
      rw [p3] at m3
      have hMF : MF μ ρ := by
        have h1 : MF ν (wI (stM ν) 68 (7 * i + 2) ((n : Int) + 1)) := by
          obtain ⟨q1, q2, q3⟩ := st_MF ν
          exact ⟨fun k a b c d f j => by rw [rI_wI, if_neg (fun z => b z.1)]; exact q1 k a b c d f j, fun j hj => by rw [rI_wI, if_neg (by omega)]; exact q2 j hj, q3⟩
        exact hF.tr (h1.tr hρ.mf)
      have e18 : rI ρ 66 18 = rI ν 66 18 := by rw [m5 18 (by omega) (by omega) (by omega), g66, st_66]; simp
      have e19 : rI ρ 66 19 = rI ν 66 19 := by rw [m5 19 (by omega) (by omega) (by omega), g66, st_66]; simp
      refine ⟨by rw [m3]; unfold holdU; omega, e19, fun z => ?_, fun z => ?_⟩
      · refine key _ ?_ ?_
        · obtain ⟨q1, q2, q3⟩ := hMF
          exact ⟨fun k a b c d f j => by rw [rI_wI, rI_wI, if_neg (fun z => a z.1), if_neg (fun z => a z.1)]; exact q1 k a b c d f j, fun j hj => by rw [rI_wI, rI_wI, if_neg (by omega), if_neg (by omega)]; exact q2 j hj, q3⟩
        · rw [if_pos z]; simp [rI_wI, holdC]
      · refine key _ hMF ?_
        rw [if_neg z, e18, e19]
    apply hV [33] 40
    simp only [InR, InL, inb, Int.toNat_natCast, wp1, wpc_z, wpc_s, stp_iconst, stp_bipush, stp_sipush, stp_lconst, stp_iload_n, stp_iload, stp_lload_n, stp_lload, stp_aload_n, stp_aload, stp_istore_n, stp_istore, stp_lstore_n, stp_lstore, stp_astore_n, stp_astore, stp_iinc, stp_iadd, stp_isub, stp_imul, stp_ineg, stp_idiv, stp_irem, stp_ladd, stp_lmul, stp_ldiv, stp_lrem, stp_ishl, stp_ishr, stp_iushr, stp_iand, stp_ior, stp_i2l, stp_i2b, stp_i2s, stp_lcmp, stp_dup, stp_dup2, stp_pop, stp_ifCond, stp_if_icmp, stp_goto, stp_tableswitch, stp_lookupswitch, stp_ldc, stp_ldc_w, stp_ldc2_w, stp_getstatic, stp_getfield, stp_putfield, stp_iaload, stp_baload, stp_iastore, stp_bastore, stp_aaload, stp_aastore, stp_invokevirtual, stp_invokestatic, stp_ireturn, stp_lreturn, stp_return_, lg, lset, okl, spl, wd, c1, cnd, tg, swT, swL, f4_0, f4_1, f4_2, f4_3, f2_0, f2_1, List.mem_cons, List.not_mem_nil, List.length_cons, List.length_nil, List.cons_append, List.nil_append, Nat.reduceAdd, Nat.reduceMul, Nat.reduceLT, Nat.reduceEqDiff, Nat.reduceLeDiff, Int.reduceAdd, Int.reduceNeg, Int.reduceToNat, Int.cast_ofNat_Int, Int.reduceNatCast, Int.toNat_zero, Int.toNat_one, Int.reduceLE, Int.reduceLT, Int.reduceEq, Int.zero_add, Int.add_zero, or_false, false_or, or_true, true_or, and_true, true_and, and_false, false_and, reduceIte, not_true_eq_false, not_false_eq_true, forall_const, false_implies, true_implies, implies_true, ne_eq, reduceCtorEq, List.all_cons, List.all_nil, Bool.and_true, Bool.and_self, decide_eq_true_eq, decide_true, dX6_hold_0, dX6_hold_1, dX6_hold_2, dX6_hold_5, dX6_hold_8, dX6_hold_9, dX6_hold_12, dX6_hold_15, dX6_hold_16, dX6_hold_19, dX6_hold_22, dX6_hold_23, dX6_hold_24, dX6_hold_25, dX6_hold_27, dX6_hold_30, dX6_hold_31, dX6_hold_33, dX6_hold_35, dX6_hold_37, dX6_hold_40, dX6_hold_41, dX6_hold_44, dX6_hold_45, dX6_hold_46, dX6_hold_47, dX6_hold_49, dX6_hold_52, dX6_hold_53, dX6_hold_54, dX6_hold_57, dX6_hold_58, dX6_hold_60, dX6_hold_61, dX6_hold_64, dX6_hold_67, dX6_hold_70, dX6_hold_73, dX6_hold_74, dX6_hold_75, dX6_hold_78, CX6_230, FX6_138, G_X6_hold_180, G_X6_hold_205, G_X6_hold_218, G_X6_hold_221, G_X6_hold_174, G_X6_hold_152, G_X6_hold_200, G_X6_hold_224, G_X6_hold_231, kd_66, T6_starts, T6_becomesOf, T6_visitsGo, T6_judges, tn7_2, g13, g38, g39, g40]
    repeat' (first | exact trivial | omega | (with_reducible assumption) | exact absurd trivial (by with_reducible assumption) | contradiction | apply And.intro | intro _)
    all_goals first | (have h9 := fin _ (by assumption); rw [h9.1]; exact h9.2.2.1 (by omega)) | (have h9 := fin _ (by assumption); exact h9.2.2.2 (by omega)) | (have h9 := fin _ (by assumption); omega)
def T6_hold : TT := fun a μ K => match a with
  | [.inr (.inr o), .inl i, .inl n, .inl w] => o = 66 ∧ (InR i ∧ InR n ∧ InR w ∧ MOK μ ∧ ∀ ν, MF μ ν → K [.inl (holdR (rI μ 67) i n w)] ν)
  | _ => False
theorem rec_X6_hold : ∀ a μ K, T6_hold a μ K → ∃ k r, a = .inr (.inr k) :: r ∧ kd k = 6 := by
  intro a μ K h
  unfold T6_hold at h
  split at h
  · exact ⟨_, _, rfl, by rw [h.1]; rfl⟩
  · exact h.elim
theorem gk_X6_hold (l : Launch) : ∀ i n b T, G_X6_hold i = some (n, b, T) → CallOK l 5 RX6 i n b T := by
  intro i n b T h
  have hm : (i, n, b, T) ∈ GL_X6_hold := lk_mem h
  simp only [GL_X6_hold, List.mem_cons, List.not_mem_nil, or_false, Prod.mk.injEq] at hm
  rcases hm with ⟨rfl, rfl, rfl, rfl⟩ | ⟨rfl, rfl, rfl, rfl⟩ | ⟨rfl, rfl, rfl, rfl⟩ | ⟨rfl, rfl, rfl, rfl⟩ | ⟨rfl, rfl, rfl, rfl⟩ | ⟨rfl, rfl, rfl, rfl⟩ | ⟨rfl, rfl, rfl, rfl⟩ | ⟨rfl, rfl, rfl, rfl⟩ | ⟨rfl, rfl, rfl, rfl⟩
  · exact CallOK.V (d := 5) (own := RX6) (i := 180) (n := 1) (ci := 6) (good_X6_isStation l) (by decide) (by decide) rfl (by decide) rec_X6_isStation (mg 796 (by decide +kernel) (by decide +kernel)) (mg 798 (by decide +kernel) (by decide +kernel)) (mgs 38 (by decide +kernel) (by decide +kernel)) (mg 7 (by decide +kernel) (by decide +kernel)) (mg 799 (by decide +kernel) (by decide +kernel)) (by decide +kernel)
  · exact CallOK.S (d := 5) (own := RX6) (i := 205) (n := 1) (good_X6_isFar l) (by decide) (by decide) (mg 864 (by decide +kernel) (by decide +kernel)) (mg 865 (by decide +kernel) (by decide +kernel)) (mg 7 (by decide +kernel) (by decide +kernel)) (mg 866 (by decide +kernel) (by decide +kernel)) (by decide +kernel)
  · exact CallOK.S (d := 5) (own := RX6) (i := 218) (n := 1) (good_X6_isPart l) (by decide) (by decide) (mg 882 (by decide +kernel) (by decide +kernel)) (mg 883 (by decide +kernel) (by decide +kernel)) (mg 7 (by decide +kernel) (by decide +kernel)) (mg 884 (by decide +kernel) (by decide +kernel)) (by decide +kernel)
  · exact CallOK.V (d := 5) (own := RX6) (i := 221) (n := 1) (ci := 6) (good_X6_startsJudging l) (by decide) (by decide) rfl (by decide) rec_X6_startsJudging (mg 885 (by decide +kernel) (by decide +kernel)) (mg 887 (by decide +kernel) (by decide +kernel)) (mgs 47 (by decide +kernel) (by decide +kernel)) (mg 7 (by decide +kernel) (by decide +kernel)) (mg 888 (by decide +kernel) (by decide +kernel)) (by decide +kernel)
  · exact CallOK.V (d := 5) (own := RX6) (i := 174) (n := 0) (ci := 6) (good_X6_starts l) (by decide) (by decide) rfl (by decide) rec_X6_starts (mg 769 (by decide +kernel) (by decide +kernel)) (mg 771 (by decide +kernel) (by decide +kernel)) (mgs 33 (by decide +kernel) (by decide +kernel)) (mg 7 (by decide +kernel) (by decide +kernel)) (mg 772 (by decide +kernel) (by decide +kernel)) (by decide +kernel)
  · exact CallOK.V (d := 5) (own := RX6) (i := 152) (n := 3) (ci := 6) (good_X6_becomesOf l) (by decide) (by decide) rfl (by decide) rec_X6_becomesOf (mg 823 (by decide +kernel) (by decide +kernel)) (mg 825 (by decide +kernel) (by decide +kernel)) (mgs 41 (by decide +kernel) (by decide +kernel)) (mg 7 (by decide +kernel) (by decide +kernel)) (mg 826 (by decide +kernel) (by decide +kernel)) (by decide +kernel)
  · exact CallOK.V (d := 5) (own := RX6) (i := 200) (n := 1) (ci := 6) (good_X6_visitsGo l) (by decide) (by decide) rfl (by decide) rec_X6_visitsGo (mg 849 (by decide +kernel) (by decide +kernel)) (mg 851 (by decide +kernel) (by decide +kernel)) (mgs 45 (by decide +kernel) (by decide +kernel)) (mg 7 (by decide +kernel) (by decide +kernel)) (mg 852 (by decide +kernel) (by decide +kernel)) (by decide +kernel)
  · exact CallOK.V (d := 5) (own := RX6) (i := 224) (n := 2) (ci := 6) (good_X6_judges l) (by decide) (by decide) rfl (by decide) rec_X6_judges (mg 889 (by decide +kernel) (by decide +kernel)) (mg 891 (by decide +kernel) (by decide +kernel)) (mgs 48 (by decide +kernel) (by decide +kernel)) (mg 7 (by decide +kernel) (by decide +kernel)) (mg 892 (by decide +kernel) (by decide +kernel)) (by decide +kernel)
  · exact CallOK.V (d := 5) (own := RX6) (i := 231) (n := 1) (ci := 6) (good_X6_judged l) (by decide) (by decide) rfl (by decide) rec_X6_judged (mg 902 (by decide +kernel) (by decide +kernel)) (mg 904 (by decide +kernel) (by decide +kernel)) (mgs 50 (by decide +kernel) (by decide +kernel)) (mg 7 (by decide +kernel) (by decide +kernel)) (mg 905 (by decide +kernel) (by decide +kernel)) (by decide +kernel)
set_option maxRecDepth 20000 in
set_option maxHeartbeats 4000000 in
theorem body_X6_hold (o : Nat) (i : Int) (n : Int) (w : Int) (μ : Mem) (K : List AV → Mem → Prop) (V : Nat → List (Option AV) → List AV → Mem → Prop) (hV : Clos FX6 CX6 G_X6_hold 1 K cX6_hold V) (hT : o = 66 ∧ (InR i ∧ InR n ∧ InR w ∧ MOK μ ∧ ∀ ν, MF μ ν → K [.inl (holdR (rI μ 67) i n w)] ν)) : V 0 [some (.inr (.inr o)), some (.inl i), some (.inl n), some (.inl w), none] [] μ := by
  simp only [InR] at hT
  obtain ⟨rfl, hi, hn, hw, hQ, hK⟩ := hT
  have h35 := hQ.1.1
  by_cases hc : (0 ≤ i ∧ i < rI μ 67 35) ∧ (0 ≤ n ∧ n ≤ 200) ∧ 0 ≤ w ∧ w ≤ 1
  · obtain ⟨i', rfl⟩ := Int.eq_ofNat_of_zero_le hc.1.1
    obtain ⟨n', rfl⟩ := Int.eq_ofNat_of_zero_le hc.2.1.1
    have h := lp_mhold V K hV μ hQ i' (by omega) n' (by omega) w (by omega) (fun ν hν => by
      have hk := hK ν hν
      unfold holdR at hk
      rw [if_pos hc, Int.toNat_natCast, Int.toNat_natCast] at hk
      exact hk) 9 0 (by omega) (wI (wI μ 66 18 (-4)) 66 19 1000000000) ⟨fun k a b c d f j => by rw [rI_wI, rI_wI, if_neg (fun z => a z.1), if_neg (fun z => a z.1)], fun j hj => by rw [rI_wI, rI_wI, if_neg (by omega), if_neg (by omega)], fun _ _ => rfl⟩ (by simp [jd, rI_wI])
    rw [show ((0 : Nat) : Int) + 1 = 1 from rfl] at h
    apply hV [33] 40
    simp only [InR, InL, inb, Int.toNat_natCast, wp1, wpc_z, wpc_s, stp_iconst, stp_bipush, stp_sipush, stp_lconst, stp_iload_n, stp_iload, stp_lload_n, stp_lload, stp_aload_n, stp_aload, stp_istore_n, stp_istore, stp_lstore_n, stp_lstore, stp_astore_n, stp_astore, stp_iinc, stp_iadd, stp_isub, stp_imul, stp_ineg, stp_idiv, stp_irem, stp_ladd, stp_lmul, stp_ldiv, stp_lrem, stp_ishl, stp_ishr, stp_iushr, stp_iand, stp_ior, stp_i2l, stp_i2b, stp_i2s, stp_lcmp, stp_dup, stp_dup2, stp_pop, stp_ifCond, stp_if_icmp, stp_goto, stp_tableswitch, stp_lookupswitch, stp_ldc, stp_ldc_w, stp_ldc2_w, stp_getstatic, stp_getfield, stp_putfield, stp_iaload, stp_baload, stp_iastore, stp_bastore, stp_aaload, stp_aastore, stp_invokevirtual, stp_invokestatic, stp_ireturn, stp_lreturn, stp_return_, lg, lset, okl, spl, wd, c1, cnd, tg, swT, swL, f4_0, f4_1, f4_2, f4_3, f2_0, f2_1, List.mem_cons, List.not_mem_nil, List.length_cons, List.length_nil, List.cons_append, List.nil_append, Nat.reduceAdd, Nat.reduceMul, Nat.reduceLT, Nat.reduceEqDiff, Nat.reduceLeDiff, Int.reduceAdd, Int.reduceNeg, Int.reduceToNat, Int.cast_ofNat_Int, Int.reduceNatCast, Int.toNat_zero, Int.toNat_one, Int.reduceLE, Int.reduceLT, Int.reduceEq, Int.zero_add, Int.add_zero, or_false, false_or, or_true, true_or, and_true, true_and, and_false, false_and, reduceIte, not_true_eq_false, not_false_eq_true, forall_const, false_implies, true_implies, implies_true, ne_eq, reduceCtorEq, List.all_cons, List.all_nil, Bool.and_true, Bool.and_self, decide_eq_true_eq, decide_true, dX6_hold_0, dX6_hold_1, dX6_hold_2, dX6_hold_5, dX6_hold_8, dX6_hold_9, dX6_hold_12, dX6_hold_15, dX6_hold_16, dX6_hold_19, dX6_hold_22, dX6_hold_23, dX6_hold_24, dX6_hold_25, dX6_hold_27, dX6_hold_30, dX6_hold_31, dX6_hold_33, dX6_hold_35, dX6_hold_37, dX6_hold_40, dX6_hold_41, dX6_hold_44, dX6_hold_45, dX6_hold_46, dX6_hold_47, dX6_hold_49, dX6_hold_52, dX6_hold_53, dX6_hold_54, dX6_hold_57, dX6_hold_58, dX6_hold_60, dX6_hold_61, dX6_hold_64, dX6_hold_67, dX6_hold_70, dX6_hold_73, dX6_hold_74, dX6_hold_75, dX6_hold_78, CX6_230, FX6_138, G_X6_hold_180, G_X6_hold_205, G_X6_hold_218, G_X6_hold_221, G_X6_hold_174, G_X6_hold_152, G_X6_hold_200, G_X6_hold_224, G_X6_hold_231, kd_66, T6_isStation, T6_isFar, T6_isPart, T6_startsJudging]
    repeat' (first | exact trivial | omega | (with_reducible assumption) | exact absurd trivial (by with_reducible assumption) | contradiction | apply And.intro | intro _)
  · have hk := hK μ MF.rf
    unfold holdR at hk
    rw [if_neg hc] at hk
    apply hV [24] 40
    simp only [InR, InL, inb, Int.toNat_natCast, wp1, wpc_z, wpc_s, stp_iconst, stp_bipush, stp_sipush, stp_lconst, stp_iload_n, stp_iload, stp_lload_n, stp_lload, stp_aload_n, stp_aload, stp_istore_n, stp_istore, stp_lstore_n, stp_lstore, stp_astore_n, stp_astore, stp_iinc, stp_iadd, stp_isub, stp_imul, stp_ineg, stp_idiv, stp_irem, stp_ladd, stp_lmul, stp_ldiv, stp_lrem, stp_ishl, stp_ishr, stp_iushr, stp_iand, stp_ior, stp_i2l, stp_i2b, stp_i2s, stp_lcmp, stp_dup, stp_dup2, stp_pop, stp_ifCond, stp_if_icmp, stp_goto, stp_tableswitch, stp_lookupswitch, stp_ldc, stp_ldc_w, stp_ldc2_w, stp_getstatic, stp_getfield, stp_putfield, stp_iaload, stp_baload, stp_iastore, stp_bastore, stp_aaload, stp_aastore, stp_invokevirtual, stp_invokestatic, stp_ireturn, stp_lreturn, stp_return_, lg, lset, okl, spl, wd, c1, cnd, tg, swT, swL, f4_0, f4_1, f4_2, f4_3, f2_0, f2_1, List.mem_cons, List.not_mem_nil, List.length_cons, List.length_nil, List.cons_append, List.nil_append, Nat.reduceAdd, Nat.reduceMul, Nat.reduceLT, Nat.reduceEqDiff, Nat.reduceLeDiff, Int.reduceAdd, Int.reduceNeg, Int.reduceToNat, Int.cast_ofNat_Int, Int.reduceNatCast, Int.toNat_zero, Int.toNat_one, Int.reduceLE, Int.reduceLT, Int.reduceEq, Int.zero_add, Int.add_zero, or_false, false_or, or_true, true_or, and_true, true_and, and_false, false_and, reduceIte, not_true_eq_false, not_false_eq_true, forall_const, false_implies, true_implies, implies_true, ne_eq, reduceCtorEq, List.all_cons, List.all_nil, Bool.and_true, Bool.and_self, decide_eq_true_eq, decide_true, dX6_hold_0, dX6_hold_1, dX6_hold_2, dX6_hold_5, dX6_hold_8, dX6_hold_9, dX6_hold_12, dX6_hold_15, dX6_hold_16, dX6_hold_19, dX6_hold_22, dX6_hold_23, dX6_hold_24, dX6_hold_25, dX6_hold_27, dX6_hold_30, dX6_hold_31, dX6_hold_33, dX6_hold_35, dX6_hold_37, dX6_hold_40, dX6_hold_41, dX6_hold_44, dX6_hold_45, dX6_hold_46, dX6_hold_47, dX6_hold_49, dX6_hold_52, dX6_hold_53, dX6_hold_54, dX6_hold_57, dX6_hold_58, dX6_hold_60, dX6_hold_61, dX6_hold_64, dX6_hold_67, dX6_hold_70, dX6_hold_73, dX6_hold_74, dX6_hold_75, dX6_hold_78, CX6_230, FX6_138, G_X6_hold_180, G_X6_hold_205, G_X6_hold_218, G_X6_hold_221, G_X6_hold_174, G_X6_hold_152, G_X6_hold_200, G_X6_hold_224, G_X6_hold_231, kd_66, T6_isStation, T6_isFar, T6_isPart]
    repeat' (first | exact trivial | omega | (with_reducible assumption) | exact absurd trivial (by with_reducible assumption) | contradiction | apply And.intro | intro _)
theorem good_X6_hold (l : Launch) : Good l 5 yX6_hold cX6_hold 5 (some .int) T6_hold := by
  refine Good.mk 1 (by decide) rfl (by simp [retOK]) FOK6 COK6 (gk_X6_hold l) ?_ ?_
  · intro a μ K h
    unfold T6_hold at h
    split at h
    · simp [entl]
    · exact h.elim
  · intro a μ K V hV h
    unfold T6_hold at h
    split at h
    · exact body_X6_hold _ _ _ _ μ K V hV h
    · exact h.elim

def GL_X6_begin : List (Nat × Nat × Bool × TT) := [(205, 1, true, T6_isFar), (218, 1, true, T6_isPart), (221, 2, false, T6_startsJudging), (174, 1, false, T6_starts), (200, 2, false, T6_visitsGo), (224, 3, false, T6_judges), (231, 2, false, T6_judged)]
def G_X6_begin : Nat → Option (Nat × Bool × TT) := fun i => GL_X6_begin.lookup i
theorem G_X6_begin_205 : G_X6_begin 205 = some (1, true, T6_isFar) := rfl
theorem G_X6_begin_218 : G_X6_begin 218 = some (1, true, T6_isPart) := rfl
theorem G_X6_begin_221 : G_X6_begin 221 = some (2, false, T6_startsJudging) := rfl
theorem G_X6_begin_174 : G_X6_begin 174 = some (1, false, T6_starts) := rfl
theorem G_X6_begin_200 : G_X6_begin 200 = some (2, false, T6_visitsGo) := rfl
theorem G_X6_begin_224 : G_X6_begin 224 = some (3, false, T6_judges) := rfl
theorem G_X6_begin_231 : G_X6_begin 231 = some (2, false, T6_judged) := rfl

set_option maxRecDepth 20000 in
set_option maxHeartbeats 4000000 in
theorem lp_mbegin (V : Nat → List (Option AV) → List AV → Mem → Prop) (K : List AV → Mem → Prop) (hV : Clos FX6 CX6 G_X6_begin 1 K cX6_begin V) (μ : Mem) (hQ : MOK μ) (e : Nat) (he : e ≤ 200) (w : Int) (hw : 0 ≤ w ∧ w ≤ 1) (hK : ∀ ν, MF μ ν → K [.inl (jdA (jd idC (beginU (rI μ 67) e) 1000000000 (rI μ 67 35).toNat) w)] ν) : ∀ m n : Nat, n + m = (rI μ 67 35).toNat → ∀ ν, MF μ ν → (rI ν 66 18, rI ν 66 19) = jd idC (beginU (rI μ 67) e) 1000000000 n → V 24 [some (.inr (.inr 66)), some (.inl (e : Int)), some (.inl w), some (.inl (n : Int))] [] ν := by
  obtain ⟨hW, h38, h39, h40⟩ := hQ
  have h35 := hW.1
  have hu : ∀ v : Nat, (v : Int) < rI μ 67 35 → 0 ≤ beginU (rI μ 67) e v ∧ beginU (rI μ 67) e v ≤ 5400 := by
    intro v hv
    have := (sum_in (p := yes) (hW.word hv) e).2.2
    rw [upF_n _ _ (show 37 ≠ 36 by omega)] at this
    unfold beginU
    omega
  have hj := fun (n : Nat) (hn : (n : Int) ≤ rI μ 67 35) => jd_rg (c := idC) (u := beginU (rI μ 67) e) (b := 1000000000) (lo := 0) (hi := 5400) (lc := 0) (hc := 9) (fun n => by show (n : Int) ≠ -4; omega) n (fun k hk => hu k (by omega)) (fun k hk => ⟨by show 0 ≤ (k : Int); omega, by show (k : Int) ≤ 9; omega⟩)
  intro m
  induction m with
  | zero =>
    intro n hn ν hF hq
    have en : n = (rI μ 67 35).toNat := by omega
    have hk := hK ν hF
    have hjn := hj n (by omega)
    rw [← en] at hk
    have e35 : rI ν 67 35 = rI μ 67 35 := hF.1 67 (by omega) (by omega) (by omega) (by omega) (by omega) 35
    rw [← hq] at hk hjn
    have hrg : -4 ≤ rI ν 66 18 ∧ rI ν 66 18 ≤ 9 := by
      by_cases z : rI ν 66 18 = -4
      · omega
      · have := hjn.2 z; simp only at this; omega
    apply hV [24] 40
    simp only [InR, InL, inb, Int.toNat_natCast, wp1, wpc_z, wpc_s, stp_iconst, stp_bipush, stp_sipush, stp_lconst, stp_iload_n, stp_iload, stp_lload_n, stp_lload, stp_aload_n, stp_aload, stp_istore_n, stp_istore, stp_lstore_n, stp_lstore, stp_astore_n, stp_astore, stp_iinc, stp_iadd, stp_isub, stp_imul, stp_ineg, stp_idiv, stp_irem, stp_ladd, stp_lmul, stp_ldiv, stp_lrem, stp_ishl, stp_ishr, stp_iushr, stp_iand, stp_ior, stp_i2l, stp_i2b, stp_i2s, stp_lcmp, stp_dup, stp_dup2, stp_pop, stp_ifCond, stp_if_icmp, stp_goto, stp_tableswitch, stp_lookupswitch, stp_ldc, stp_ldc_w, stp_ldc2_w, stp_getstatic, stp_getfield, stp_putfield, stp_iaload, stp_baload, stp_iastore, stp_bastore, stp_aaload, stp_aastore, stp_invokevirtual, stp_invokestatic, stp_ireturn, stp_lreturn, stp_return_, lg, lset, okl, spl, wd, c1, cnd, tg, swT, swL, f4_0, f4_1, f4_2, f4_3, f2_0, f2_1, List.mem_cons, List.not_mem_nil, List.length_cons, List.length_nil, List.cons_append, List.nil_append, Nat.reduceAdd, Nat.reduceMul, Nat.reduceLT, Nat.reduceEqDiff, Nat.reduceLeDiff, Int.reduceAdd, Int.reduceNeg, Int.reduceToNat, Int.cast_ofNat_Int, Int.reduceNatCast, Int.toNat_zero, Int.toNat_one, Int.reduceLE, Int.reduceLT, Int.reduceEq, Int.zero_add, Int.add_zero, or_false, false_or, or_true, true_or, and_true, true_and, and_false, false_and, reduceIte, not_true_eq_false, not_false_eq_true, forall_const, false_implies, true_implies, implies_true, ne_eq, reduceCtorEq, List.all_cons, List.all_nil, Bool.and_true, Bool.and_self, decide_eq_true_eq, decide_true, dX6_begin_0, dX6_begin_1, dX6_begin_4, dX6_begin_7, dX6_begin_8, dX6_begin_11, dX6_begin_14, dX6_begin_15, dX6_begin_16, dX6_begin_17, dX6_begin_19, dX6_begin_22, dX6_begin_23, dX6_begin_24, dX6_begin_25, dX6_begin_26, dX6_begin_29, dX6_begin_31, dX6_begin_32, dX6_begin_35, dX6_begin_36, dX6_begin_39, dX6_begin_40, dX6_begin_43, dX6_begin_45, dX6_begin_46, dX6_begin_47, dX6_begin_48, dX6_begin_49, dX6_begin_52, dX6_begin_53, dX6_begin_54, dX6_begin_55, dX6_begin_58, dX6_begin_61, dX6_begin_64, dX6_begin_67, dX6_begin_68, dX6_begin_69, dX6_begin_72, CX6_230, FX6_7, FX6_13, FX6_135, G_X6_begin_205, G_X6_begin_218, G_X6_begin_221, G_X6_begin_174, G_X6_begin_200, G_X6_begin_224, G_X6_begin_231, kd_66, kd_67, ln_67, e35, T6_judged]
    repeat' (first | exact trivial | omega | (with_reducible assumption) | exact absurd trivial (by with_reducible assumption) | contradiction | apply And.intro | intro _)
  | succ m ih =>
    intro n hn ν hF hq
    have hun := hu n (by omega)
    have hjn := hj n (by omega)
    have key := fun σ hσ => ih (n + 1) (by omega) σ hσ
    rw [show ((n + 1 : Nat) : Int) = (n : Int) + 1 by omega, jd_s, ← hq] at key
    rw [← hq] at hjn
    have hrg : 0 ≤ rI ν 66 19 ∧ rI ν 66 19 ≤ 1000000000 := by
      by_cases z : rI ν 66 18 = -4
      · have := (hjn.1 z).1; simp only at this; omega
      · have := hjn.2 z; simp only at this; omega
    clear hjn
    have e67 : rI ν 67 = rI μ 67 := funext (fun j => hF.1 67 (by omega) (by omega) (by omega) (by omega) (by omega) j)
    have hW2 : WF (upF (rI μ 67) 36 (n : Int)) := hW.word (by omega)
    have hE : Eq39 (rI (wI (stM ν) 68 36 (n : Int)) 68) (upF (rI μ 67) 36 (n : Int)) := by
      intro x hx
      rw [rI_wI]
      unfold upF
      by_cases ex : x = 36
      · rw [if_pos ⟨rfl, ex⟩, if_pos ex]
      · rw [if_neg (fun z => ex z.2), if_neg ex, st_68 ν (by omega), e67]
    have g38 : rI (wI (stM ν) 68 36 (n : Int)) 68 38 = rI μ 67 38 := by rw [rI_wI, if_neg (by omega), st_68 ν (by omega), e67]
    have g39 : rI (wI (stM ν) 68 36 (n : Int)) 68 39 = rI μ 67 39 := by rw [rI_wI, if_neg (by omega), st_68 ν (by omega), e67]
    have g40 : rI (wI (stM ν) 68 36 (n : Int)) 68 40 = rI μ 67 40 := by rw [rI_wI, if_neg (by omega), st_68 ν (by omega), e67]
    have g66 : ∀ j, rI (wI (stM ν) 68 36 (n : Int)) 66 j = rI (stM ν) 66 j := fun j => by rw [rI_wI, if_neg (by omega)]
    have g13 : rI (wI (stM ν) 68 36 (n : Int)) 66 13 = -4 := by rw [g66, st_66]; simp
    have hW3 : WF (rI (wI (stM ν) 68 36 (n : Int)) 68) := hW2.of hE.sy
    have fin : ∀ ρ, MGR (psd (-4)) (wI (stM ν) 68 36 (n : Int)) ρ e → rI ρ 66 15 = beginU (rI μ 67) e n ∧ rI ρ 66 19 = rI ν 66 19 ∧ (beginU (rI μ 67) e n < rI ν 66 19 → V 24 [some (.inr (.inr 66)), some (.inl (e : Int)), some (.inl w), some (.inl ((n : Int) + 1))] [] (wI (wI ρ 66 18 n) 66 19 (beginU (rI μ 67) e n))) ∧ (¬ beginU (rI μ 67) e n < rI ν 66 19 → V 24 [some (.inr (.inr 66)), some (.inl (e : Int)), some (.inl w), some (.inl ((n : Int) + 1))] [] ρ) := by
      intro ρ hρ
      obtain ⟨m1, m2, m3, m4, m5⟩ := mrun hE hW2 (by rw [g66, st_66]; simp) (by rw [g66, st_66]; simp) (by rw [g66, st_66]; simp) hρ
      obtain ⟨p1, p2, p3⟩ := nx_psd4 hW2 e
      rw [p1] at m2
      have hMF : MF μ ρ := by
        have h1 : MF ν (wI (stM ν) 68 36 (n : Int)) := by
          obtain ⟨q1, q2, q3⟩ := st_MF ν
          exact ⟨fun k a b c d f j => by rw [rI_wI, if_neg (fun z => b z.1)]; exact q1 k a b c d f j, fun j hj => by rw [rI_wI, if_neg (by omega)]; exact q2 j hj, q3⟩
        exact hF.tr (h1.tr hρ.mf)
      have e18 : rI ρ 66 18 = rI ν 66 18 := by rw [m5 18 (by omega) (by omega) (by omega), g66, st_66]; simp
      have e19 : rI ρ 66 19 = rI ν 66 19 := by rw [m5 19 (by omega) (by omega) (by omega), g66, st_66]; simp
      refine ⟨by rw [m2, upF_n _ _ (show 37 ≠ 36 by omega)]; rfl, e19, fun z => ?_, fun z => ?_⟩
      · refine key _ ?_ ?_
        · obtain ⟨q1, q2, q3⟩ := hMF
          exact ⟨fun k a b c d f j => by rw [rI_wI, rI_wI, if_neg (fun z => a z.1), if_neg (fun z => a z.1)]; exact q1 k a b c d f j, fun j hj => by rw [rI_wI, rI_wI, if_neg (by omega), if_neg (by omega)]; exact q2 j hj, q3⟩
        · rw [if_pos z]; simp [rI_wI, idC]
      · refine key _ hMF ?_
        rw [if_neg z, e18, e19]
    have e35 : rI ν 67 35 = rI μ 67 35 := by rw [e67]
    apply hV [24] 40
    simp only [InR, InL, inb, Int.toNat_natCast, wp1, wpc_z, wpc_s, stp_iconst, stp_bipush, stp_sipush, stp_lconst, stp_iload_n, stp_iload, stp_lload_n, stp_lload, stp_aload_n, stp_aload, stp_istore_n, stp_istore, stp_lstore_n, stp_lstore, stp_astore_n, stp_astore, stp_iinc, stp_iadd, stp_isub, stp_imul, stp_ineg, stp_idiv, stp_irem, stp_ladd, stp_lmul, stp_ldiv, stp_lrem, stp_ishl, stp_ishr, stp_iushr, stp_iand, stp_ior, stp_i2l, stp_i2b, stp_i2s, stp_lcmp, stp_dup, stp_dup2, stp_pop, stp_ifCond, stp_if_icmp, stp_goto, stp_tableswitch, stp_lookupswitch, stp_ldc, stp_ldc_w, stp_ldc2_w, stp_getstatic, stp_getfield, stp_putfield, stp_iaload, stp_baload, stp_iastore, stp_bastore, stp_aaload, stp_aastore, stp_invokevirtual, stp_invokestatic, stp_ireturn, stp_lreturn, stp_return_, lg, lset, okl, spl, wd, c1, cnd, tg, swT, swL, f4_0, f4_1, f4_2, f4_3, f2_0, f2_1, List.mem_cons, List.not_mem_nil, List.length_cons, List.length_nil, List.cons_append, List.nil_append, Nat.reduceAdd, Nat.reduceMul, Nat.reduceLT, Nat.reduceEqDiff, Nat.reduceLeDiff, Int.reduceAdd, Int.reduceNeg, Int.reduceToNat, Int.cast_ofNat_Int, Int.reduceNatCast, Int.toNat_zero, Int.toNat_one, Int.reduceLE, Int.reduceLT, Int.reduceEq, Int.zero_add, Int.add_zero, or_false, false_or, or_true, true_or, and_true, true_and, and_false, false_and, reduceIte, not_true_eq_false, not_false_eq_true, forall_const, false_implies, true_implies, implies_true, ne_eq, reduceCtorEq, List.all_cons, List.all_nil, Bool.and_true, Bool.and_self, decide_eq_true_eq, decide_true, dX6_begin_0, dX6_begin_1, dX6_begin_4, dX6_begin_7, dX6_begin_8, dX6_begin_11, dX6_begin_14, dX6_begin_15, dX6_begin_16, dX6_begin_17, dX6_begin_19, dX6_begin_22, dX6_begin_23, dX6_begin_24, dX6_begin_25, dX6_begin_26, dX6_begin_29, dX6_begin_31, dX6_begin_32, dX6_begin_35, dX6_begin_36, dX6_begin_39, dX6_begin_40, dX6_begin_43, dX6_begin_45, dX6_begin_46, dX6_begin_47, dX6_begin_48, dX6_begin_49, dX6_begin_52, dX6_begin_53, dX6_begin_54, dX6_begin_55, dX6_begin_58, dX6_begin_61, dX6_begin_64, dX6_begin_67, dX6_begin_68, dX6_begin_69, dX6_begin_72, CX6_230, FX6_7, FX6_13, FX6_135, G_X6_begin_205, G_X6_begin_218, G_X6_begin_221, G_X6_begin_174, G_X6_begin_200, G_X6_begin_224, G_X6_begin_231, kd_66, kd_67, ln_67, kd_68, ln_68, e35, T6_starts, T6_visitsGo, T6_judges, g13, g38, g39, g40]
    repeat' (first | exact trivial | omega | (with_reducible assumption) | exact absurd trivial (by with_reducible assumption) | contradiction | apply And.intro | intro _)
    all_goals first | (have h9 := fin _ (by assumption); rw [h9.1]; exact h9.2.2.1 (by omega)) | (have h9 := fin _ (by assumption); exact h9.2.2.2 (by omega)) | (have h9 := fin _ (by assumption); omega)
def T6_begin : TT := fun a μ K => match a with
  | [.inr (.inr o), .inl n, .inl w] => o = 66 ∧ (InR n ∧ InR w ∧ MOK μ ∧ ∀ ν, MF μ ν → K [.inl (beginR (rI μ 67) n w)] ν)
  | _ => False
theorem rec_X6_begin : ∀ a μ K, T6_begin a μ K → ∃ k r, a = .inr (.inr k) :: r ∧ kd k = 6 := by
  intro a μ K h
  unfold T6_begin at h
  split at h
  · exact ⟨_, _, rfl, by rw [h.1]; rfl⟩
  · exact h.elim
theorem gk_X6_begin (l : Launch) : ∀ i n b T, G_X6_begin i = some (n, b, T) → CallOK l 5 RX6 i n b T := by
  intro i n b T h
  have hm : (i, n, b, T) ∈ GL_X6_begin := lk_mem h
  simp only [GL_X6_begin, List.mem_cons, List.not_mem_nil, or_false, Prod.mk.injEq] at hm
  rcases hm with ⟨rfl, rfl, rfl, rfl⟩ | ⟨rfl, rfl, rfl, rfl⟩ | ⟨rfl, rfl, rfl, rfl⟩ | ⟨rfl, rfl, rfl, rfl⟩ | ⟨rfl, rfl, rfl, rfl⟩ | ⟨rfl, rfl, rfl, rfl⟩ | ⟨rfl, rfl, rfl, rfl⟩
  · exact CallOK.S (d := 5) (own := RX6) (i := 205) (n := 1) (good_X6_isFar l) (by decide) (by decide) (mg 864 (by decide +kernel) (by decide +kernel)) (mg 865 (by decide +kernel) (by decide +kernel)) (mg 7 (by decide +kernel) (by decide +kernel)) (mg 866 (by decide +kernel) (by decide +kernel)) (by decide +kernel)
  · exact CallOK.S (d := 5) (own := RX6) (i := 218) (n := 1) (good_X6_isPart l) (by decide) (by decide) (mg 882 (by decide +kernel) (by decide +kernel)) (mg 883 (by decide +kernel) (by decide +kernel)) (mg 7 (by decide +kernel) (by decide +kernel)) (mg 884 (by decide +kernel) (by decide +kernel)) (by decide +kernel)
  · exact CallOK.V (d := 5) (own := RX6) (i := 221) (n := 1) (ci := 6) (good_X6_startsJudging l) (by decide) (by decide) rfl (by decide) rec_X6_startsJudging (mg 885 (by decide +kernel) (by decide +kernel)) (mg 887 (by decide +kernel) (by decide +kernel)) (mgs 47 (by decide +kernel) (by decide +kernel)) (mg 7 (by decide +kernel) (by decide +kernel)) (mg 888 (by decide +kernel) (by decide +kernel)) (by decide +kernel)
  · exact CallOK.V (d := 5) (own := RX6) (i := 174) (n := 0) (ci := 6) (good_X6_starts l) (by decide) (by decide) rfl (by decide) rec_X6_starts (mg 769 (by decide +kernel) (by decide +kernel)) (mg 771 (by decide +kernel) (by decide +kernel)) (mgs 33 (by decide +kernel) (by decide +kernel)) (mg 7 (by decide +kernel) (by decide +kernel)) (mg 772 (by decide +kernel) (by decide +kernel)) (by decide +kernel)
  · exact CallOK.V (d := 5) (own := RX6) (i := 200) (n := 1) (ci := 6) (good_X6_visitsGo l) (by decide) (by decide) rfl (by decide) rec_X6_visitsGo (mg 849 (by decide +kernel) (by decide +kernel)) (mg 851 (by decide +kernel) (by decide +kernel)) (mgs 45 (by decide +kernel) (by decide +kernel)) (mg 7 (by decide +kernel) (by decide +kernel)) (mg 852 (by decide +kernel) (by decide +kernel)) (by decide +kernel)
  · exact CallOK.V (d := 5) (own := RX6) (i := 224) (n := 2) (ci := 6) (good_X6_judges l) (by decide) (by decide) rfl (by decide) rec_X6_judges (mg 889 (by decide +kernel) (by decide +kernel)) (mg 891 (by decide +kernel) (by decide +kernel)) (mgs 48 (by decide +kernel) (by decide +kernel)) (mg 7 (by decide +kernel) (by decide +kernel)) (mg 892 (by decide +kernel) (by decide +kernel)) (by decide +kernel)
  · exact CallOK.V (d := 5) (own := RX6) (i := 231) (n := 1) (ci := 6) (good_X6_judged l) (by decide) (by decide) rfl (by decide) rec_X6_judged (mg 902 (by decide +kernel) (by decide +kernel)) (mg 904 (by decide +kernel) (by decide +kernel)) (mgs 50 (by decide +kernel) (by decide +kernel)) (mg 7 (by decide +kernel) (by decide +kernel)) (mg 905 (by decide +kernel) (by decide +kernel)) (by decide +kernel)
set_option maxRecDepth 20000 in
set_option maxHeartbeats 4000000 in
theorem body_X6_begin (o : Nat) (n : Int) (w : Int) (μ : Mem) (K : List AV → Mem → Prop) (V : Nat → List (Option AV) → List AV → Mem → Prop) (hV : Clos FX6 CX6 G_X6_begin 1 K cX6_begin V) (hT : o = 66 ∧ (InR n ∧ InR w ∧ MOK μ ∧ ∀ ν, MF μ ν → K [.inl (beginR (rI μ 67) n w)] ν)) : V 0 [some (.inr (.inr o)), some (.inl n), some (.inl w), none] [] μ := by
  simp only [InR] at hT
  obtain ⟨rfl, hn, hw, hQ, hK⟩ := hT
  have h35 := hQ.1.1
  by_cases hc : (0 ≤ n ∧ n ≤ 200) ∧ 0 ≤ w ∧ w ≤ 1
  · obtain ⟨n', rfl⟩ := Int.eq_ofNat_of_zero_le hc.1.1
    have h := lp_mbegin V K hV μ hQ n' (by omega) w (by omega) (fun ν hν => by
      have hk := hK ν hν
      unfold beginR at hk
      rw [if_pos hc, Int.toNat_natCast] at hk
      exact hk) (rI μ 67 35).toNat 0 (by omega) (wI (wI μ 66 18 (-4)) 66 19 1000000000) ⟨fun k a b c d f j => by rw [rI_wI, rI_wI, if_neg (fun z => a z.1), if_neg (fun z => a z.1)], fun j hj => by rw [rI_wI, rI_wI, if_neg (by omega), if_neg (by omega)], fun _ _ => rfl⟩ (by simp [jd, rI_wI])
    apply hV [24] 40
    simp only [InR, InL, inb, Int.toNat_natCast, wp1, wpc_z, wpc_s, stp_iconst, stp_bipush, stp_sipush, stp_lconst, stp_iload_n, stp_iload, stp_lload_n, stp_lload, stp_aload_n, stp_aload, stp_istore_n, stp_istore, stp_lstore_n, stp_lstore, stp_astore_n, stp_astore, stp_iinc, stp_iadd, stp_isub, stp_imul, stp_ineg, stp_idiv, stp_irem, stp_ladd, stp_lmul, stp_ldiv, stp_lrem, stp_ishl, stp_ishr, stp_iushr, stp_iand, stp_ior, stp_i2l, stp_i2b, stp_i2s, stp_lcmp, stp_dup, stp_dup2, stp_pop, stp_ifCond, stp_if_icmp, stp_goto, stp_tableswitch, stp_lookupswitch, stp_ldc, stp_ldc_w, stp_ldc2_w, stp_getstatic, stp_getfield, stp_putfield, stp_iaload, stp_baload, stp_iastore, stp_bastore, stp_aaload, stp_aastore, stp_invokevirtual, stp_invokestatic, stp_ireturn, stp_lreturn, stp_return_, lg, lset, okl, spl, wd, c1, cnd, tg, swT, swL, f4_0, f4_1, f4_2, f4_3, f2_0, f2_1, List.mem_cons, List.not_mem_nil, List.length_cons, List.length_nil, List.cons_append, List.nil_append, Nat.reduceAdd, Nat.reduceMul, Nat.reduceLT, Nat.reduceEqDiff, Nat.reduceLeDiff, Int.reduceAdd, Int.reduceNeg, Int.reduceToNat, Int.cast_ofNat_Int, Int.reduceNatCast, Int.toNat_zero, Int.toNat_one, Int.reduceLE, Int.reduceLT, Int.reduceEq, Int.zero_add, Int.add_zero, or_false, false_or, or_true, true_or, and_true, true_and, and_false, false_and, reduceIte, not_true_eq_false, not_false_eq_true, forall_const, false_implies, true_implies, implies_true, ne_eq, reduceCtorEq, List.all_cons, List.all_nil, Bool.and_true, Bool.and_self, decide_eq_true_eq, decide_true, dX6_begin_0, dX6_begin_1, dX6_begin_4, dX6_begin_7, dX6_begin_8, dX6_begin_11, dX6_begin_14, dX6_begin_15, dX6_begin_16, dX6_begin_17, dX6_begin_19, dX6_begin_22, dX6_begin_23, dX6_begin_24, dX6_begin_25, dX6_begin_26, dX6_begin_29, dX6_begin_31, dX6_begin_32, dX6_begin_35, dX6_begin_36, dX6_begin_39, dX6_begin_40, dX6_begin_43, dX6_begin_45, dX6_begin_46, dX6_begin_47, dX6_begin_48, dX6_begin_49, dX6_begin_52, dX6_begin_53, dX6_begin_54, dX6_begin_55, dX6_begin_58, dX6_begin_61, dX6_begin_64, dX6_begin_67, dX6_begin_68, dX6_begin_69, dX6_begin_72, CX6_230, FX6_7, FX6_13, FX6_135, G_X6_begin_205, G_X6_begin_218, G_X6_begin_221, G_X6_begin_174, G_X6_begin_200, G_X6_begin_224, G_X6_begin_231, kd_66, T6_isFar, T6_isPart, T6_startsJudging]
    repeat' (first | exact trivial | omega | (with_reducible assumption) | exact absurd trivial (by with_reducible assumption) | contradiction | apply And.intro | intro _)
  · have hk := hK μ MF.rf
    unfold beginR at hk
    rw [if_neg hc] at hk
    apply hV [16] 40
    simp only [InR, InL, inb, Int.toNat_natCast, wp1, wpc_z, wpc_s, stp_iconst, stp_bipush, stp_sipush, stp_lconst, stp_iload_n, stp_iload, stp_lload_n, stp_lload, stp_aload_n, stp_aload, stp_istore_n, stp_istore, stp_lstore_n, stp_lstore, stp_astore_n, stp_astore, stp_iinc, stp_iadd, stp_isub, stp_imul, stp_ineg, stp_idiv, stp_irem, stp_ladd, stp_lmul, stp_ldiv, stp_lrem, stp_ishl, stp_ishr, stp_iushr, stp_iand, stp_ior, stp_i2l, stp_i2b, stp_i2s, stp_lcmp, stp_dup, stp_dup2, stp_pop, stp_ifCond, stp_if_icmp, stp_goto, stp_tableswitch, stp_lookupswitch, stp_ldc, stp_ldc_w, stp_ldc2_w, stp_getstatic, stp_getfield, stp_putfield, stp_iaload, stp_baload, stp_iastore, stp_bastore, stp_aaload, stp_aastore, stp_invokevirtual, stp_invokestatic, stp_ireturn, stp_lreturn, stp_return_, lg, lset, okl, spl, wd, c1, cnd, tg, swT, swL, f4_0, f4_1, f4_2, f4_3, f2_0, f2_1, List.mem_cons, List.not_mem_nil, List.length_cons, List.length_nil, List.cons_append, List.nil_append, Nat.reduceAdd, Nat.reduceMul, Nat.reduceLT, Nat.reduceEqDiff, Nat.reduceLeDiff, Int.reduceAdd, Int.reduceNeg, Int.reduceToNat, Int.cast_ofNat_Int, Int.reduceNatCast, Int.toNat_zero, Int.toNat_one, Int.reduceLE, Int.reduceLT, Int.reduceEq, Int.zero_add, Int.add_zero, or_false, false_or, or_true, true_or, and_true, true_and, and_false, false_and, reduceIte, not_true_eq_false, not_false_eq_true, forall_const, false_implies, true_implies, implies_true, ne_eq, reduceCtorEq, List.all_cons, List.all_nil, Bool.and_true, Bool.and_self, decide_eq_true_eq, decide_true, dX6_begin_0, dX6_begin_1, dX6_begin_4, dX6_begin_7, dX6_begin_8, dX6_begin_11, dX6_begin_14, dX6_begin_15, dX6_begin_16, dX6_begin_17, dX6_begin_19, dX6_begin_22, dX6_begin_23, dX6_begin_24, dX6_begin_25, dX6_begin_26, dX6_begin_29, dX6_begin_31, dX6_begin_32, dX6_begin_35, dX6_begin_36, dX6_begin_39, dX6_begin_40, dX6_begin_43, dX6_begin_45, dX6_begin_46, dX6_begin_47, dX6_begin_48, dX6_begin_49, dX6_begin_52, dX6_begin_53, dX6_begin_54, dX6_begin_55, dX6_begin_58, dX6_begin_61, dX6_begin_64, dX6_begin_67, dX6_begin_68, dX6_begin_69, dX6_begin_72, CX6_230, FX6_7, FX6_13, FX6_135, G_X6_begin_205, G_X6_begin_218, G_X6_begin_221, G_X6_begin_174, G_X6_begin_200, G_X6_begin_224, G_X6_begin_231, kd_66, T6_isFar, T6_isPart]
    repeat' (first | exact trivial | omega | (with_reducible assumption) | exact absurd trivial (by with_reducible assumption) | contradiction | apply And.intro | intro _)
theorem good_X6_begin (l : Launch) : Good l 5 yX6_begin cX6_begin 4 (some .int) T6_begin := by
  refine Good.mk 1 (by decide) rfl (by simp [retOK]) FOK6 COK6 (gk_X6_begin l) ?_ ?_
  · intro a μ K h
    unfold T6_begin at h
    split at h
    · simp [entl]
    · exact h.elim
  · intro a μ K V hV h
    unfold T6_begin at h
    split at h
    · exact body_X6_begin _ _ _ μ K V hV h
    · exact h.elim

