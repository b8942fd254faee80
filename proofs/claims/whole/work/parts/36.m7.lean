/-! the reference: pass, ahead, when -/
def GL_X6_pass : List (Nat × Nat × Bool × TT) := [(205, 1, true, T6_isFar), (218, 1, true, T6_isPart), (174, 1, false, T6_starts), (200, 2, false, T6_visitsGo), (221, 2, false, T6_startsJudging), (224, 3, false, T6_judges), (231, 2, false, T6_judged)]
def G_X6_pass : Nat → Option (Nat × Bool × TT) := fun i => GL_X6_pass.lookup i
theorem G_X6_pass_205 : G_X6_pass 205 = some (1, true, T6_isFar) := rfl
theorem G_X6_pass_218 : G_X6_pass 218 = some (1, true, T6_isPart) := rfl
theorem G_X6_pass_174 : G_X6_pass 174 = some (1, false, T6_starts) := rfl
theorem G_X6_pass_200 : G_X6_pass 200 = some (2, false, T6_visitsGo) := rfl
theorem G_X6_pass_221 : G_X6_pass 221 = some (2, false, T6_startsJudging) := rfl
theorem G_X6_pass_224 : G_X6_pass 224 = some (3, false, T6_judges) := rfl
theorem G_X6_pass_231 : G_X6_pass 231 = some (2, false, T6_judged) := rfl

set_option maxRecDepth 20000 in
set_option maxHeartbeats 4000000 in
theorem lp_mpass (V : Nat → List (Option AV) → List AV → Mem → Prop) (K : List AV → Mem → Prop) (hV : Clos FX6 CX6 G_X6_pass 1 K cX6_pass V) (μ : Mem) (hQ : MOK μ) (e : Nat) (he : e ≤ 200) (w : Int) (hw : 0 ≤ w ∧ w ≤ 1) (hK : ∀ ν, MF μ ν → K [.inl (jdA (jd idC (passU (rI μ 67) e) (sL yes (rI μ 67) e) (rI μ 67 35).toNat) w)] ν) : ∀ m n : Nat, n + m = (rI μ 67 35).toNat → ∀ ν, MF μ ν → (rI ν 66 18, rI ν 66 19) = jd idC (passU (rI μ 67) e) (sL yes (rI μ 67) e) n → V 35 [some (.inr (.inr 66)), some (.inl (e : Int)), some (.inl w), some (.inl (n : Int))] [] ν := by
  obtain ⟨hW, h38, h39, h40⟩ := hQ
  have h35 := hW.1
  have hu : ∀ v : Nat, 0 ≤ passU (rI μ 67) e v ∧ passU (rI μ 67) e v ≤ 27000 := by
    intro v
    have := (sum_in (p := psd (v : Int)) hW e).2.1
    unfold passU
    omega
  have hb := (sum_in (p := yes) hW e).2.1
  have hj := fun (n : Nat) (hn : (n : Int) ≤ rI μ 67 35) => jd_rg (c := idC) (u := passU (rI μ 67) e) (b := sL yes (rI μ 67) e) (lo := 0) (hi := 27000) (lc := 0) (hc := 9) (fun n => by show (n : Int) ≠ -4; omega) n (fun k hk => hu k) (fun k hk => ⟨by show 0 ≤ (k : Int); omega, by show (k : Int) ≤ 9; omega⟩)
  intro m
  induction m with
  | zero =>
    intro n hn ν hF hq
    have en : n = (rI μ 67 35).toNat := by omega
    have hk := hK ν hF
    have hjn := hj n (by omega)
    rw [← en] at hk
    have e35 : rI ν 67 35 = rI μ 67 35 := hF.1 67 (by omega) (by omega) (by omega) (by omega) (by omega) 35
    rw [← hq] at hk hjn
    have hrg : -4 ≤ rI ν 66 18 ∧ rI ν 66 18 ≤ 9 := by
      by_cases z : rI ν 66 18 = -4
      · omega
      · have := hjn.2 z; simp only at this; omega
    apply hV [35] 40
    simp only [InR, InL, inb, Int.toNat_natCast, wp1, wpc_z, wpc_s, stp_iconst, stp_bipush, stp_sipush, stp_lconst, stp_iload_n, stp_iload, stp_lload_n, stp_lload, stp_aload_n, stp_aload, stp_istore_n, stp_istore, stp_lstore_n, stp_lstore, stp_astore_n, stp_astore, stp_iinc, stp_iadd, stp_isub, stp_imul, stp_ineg, stp_idiv, stp_irem, stp_ladd, stp_lmul, stp_ldiv, stp_lrem, stp_ishl, stp_ishr, stp_iushr, stp_iand, stp_ior, stp_i2l, stp_i2b, stp_i2s, stp_lcmp, stp_dup, stp_dup2, stp_pop, stp_ifCond, stp_if_icmp, stp_goto, stp_tableswitch, stp_lookupswitch, stp_ldc, stp_ldc_w, stp_ldc2_w, stp_getstatic, stp_getfield, stp_putfield, stp_iaload, stp_baload, stp_iastore, stp_bastore, stp_aaload, stp_aastore, stp_invokevirtual, stp_invokestatic, stp_ireturn, stp_lreturn, stp_return_, lg, lset, okl, spl, wd, c1, cnd, tg, swT, swL, f4_0, f4_1, f4_2, f4_3, f2_0, f2_1, List.mem_cons, List.not_mem_nil, List.length_cons, List.length_nil, List.cons_append, List.nil_append, Nat.reduceAdd, Nat.reduceMul, Nat.reduceLT, Nat.reduceEqDiff, Nat.reduceLeDiff, Int.reduceAdd, Int.reduceNeg, Int.reduceToNat, Int.cast_ofNat_Int, Int.reduceNatCast, Int.toNat_zero, Int.toNat_one, Int.reduceLE, Int.reduceLT, Int.reduceEq, Int.zero_add, Int.add_zero, or_false, false_or, or_true, true_or, and_true, true_and, and_false, false_and, reduceIte, not_true_eq_false, not_false_eq_true, forall_const, false_implies, true_implies, implies_true, ne_eq, reduceCtorEq, List.all_cons, List.all_nil, Bool.and_true, Bool.and_self, decide_eq_true_eq, decide_true, dX6_pass_0, dX6_pass_1, dX6_pass_4, dX6_pass_7, dX6_pass_8, dX6_pass_11, dX6_pass_14, dX6_pass_15, dX6_pass_16, dX6_pass_17, dX6_pass_20, dX6_pass_21, dX6_pass_22, dX6_pass_25, dX6_pass_26, dX6_pass_27, dX6_pass_30, dX6_pass_33, dX6_pass_34, dX6_pass_35, dX6_pass_36, dX6_pass_37, dX6_pass_40, dX6_pass_42, dX6_pass_43, dX6_pass_46, dX6_pass_47, dX6_pass_50, dX6_pass_51, dX6_pass_52, dX6_pass_55, dX6_pass_56, dX6_pass_57, dX6_pass_60, dX6_pass_61, dX6_pass_62, dX6_pass_63, dX6_pass_66, dX6_pass_69, dX6_pass_72, dX6_pass_75, dX6_pass_76, dX6_pass_77, dX6_pass_80, FX6_138, FX6_7, FX6_129, G_X6_pass_205, G_X6_pass_218, G_X6_pass_174, G_X6_pass_200, G_X6_pass_221, G_X6_pass_224, G_X6_pass_231, kd_66, kd_67, ln_67, e35, T6_judged]
    repeat' (first | exact trivial | omega | (with_reducible assumption) | exact absurd trivial (by with_reducible assumption) | contradiction | apply And.intro | intro _)
  | succ m ih =>
    intro n hn ν hF hq
    have hun := hu n
    have hjn := hj n (by omega)
    have key := fun σ hσ => ih (n + 1) (by omega) σ hσ
    rw [show ((n + 1 : Nat) : Int) = (n : Int) + 1 by omega, jd_s, ← hq] at key
    rw [← hq] at hjn
    have hrg : 0 ≤ rI ν 66 19 ∧ rI ν 66 19 ≤ 27000 := by
      by_cases z : rI ν 66 18 = -4
      · have := (hjn.1 z).1; simp only at this; omega
      · have := hjn.2 z; simp only at this; omega
    clear hjn
    have e67 : rI ν 67 = rI μ 67 := funext (fun j => hF.1 67 (by omega) (by omega) (by omega) (by omega) (by omega) j)
    have hE : Eq39 (rI (wI (stM ν) 66 13 (n : Int)) 68) (rI μ 67) := by
      intro x hx
      rw [rI_wI, if_neg (by omega), st_68 ν (by omega), e67]
    have g38 : rI (wI (stM ν) 66 13 (n : Int)) 68 38 = rI μ 67 38 := by rw [rI_wI, if_neg (by omega), st_68 ν (by omega), e67]
    have g39 : rI (wI (stM ν) 66 13 (n : Int)) 68 39 = rI μ 67 39 := by rw [rI_wI, if_neg (by omega), st_68 ν (by omega), e67]
    have g40 : rI (wI (stM ν) 66 13 (n : Int)) 68 40 = rI μ 67 40 := by rw [rI_wI, if_neg (by omega), st_68 ν (by omega), e67]
    have g66 : ∀ j, j ≠ 13 → rI (wI (stM ν) 66 13 (n : Int)) 66 j = rI (stM ν) 66 j := fun j hj => by rw [rI_wI, if_neg (fun z => hj z.2)]
    have g13 : rI (wI (stM ν) 66 13 (n : Int)) 66 13 = (n : Int) := by rw [rI_wI, if_pos ⟨rfl, rfl⟩]
    have hW3 : WF (rI (wI (stM ν) 66 13 (n : Int)) 68) := hW.of hE.sy
    have fin : ∀ ρ, MGR (psd (n : Int)) (wI (stM ν) 66 13 (n : Int)) ρ e → rI ρ 66 16 = passU (rI μ 67) e n ∧ rI ρ 66 19 = rI ν 66 19 ∧ (passU (rI μ 67) e n < rI ν 66 19 → V 35 [some (.inr (.inr 66)), some (.inl (e : Int)), some (.inl w), some (.inl ((n : Int) + 1))] [] (wI (wI ρ 66 18 n) 66 19 (passU (rI μ 67) e n))) ∧ (¬ passU (rI μ 67) e n < rI ν 66 19 → V 35 [some (.inr (.inr 66)), some (.inl (e : Int)), some (.inl w), some (.inl ((n : Int) + 1))] [] ρ) := by
      intro ρ hρ
      obtain ⟨m1, m2, m3, m4, m5⟩ := mrun hE hW (by rw [g66 14 (by omega), st_66]; simp) (by rw [g66 15 (by omega), st_66]; simp) (by rw [g66 16 (by omega), st_66]; simp) hρ
      have hMF : MF μ ρ := by
        have h1 : MF ν (wI (stM ν) 66 13 (n : Int)) := by
          obtain ⟨q1, q2, q3⟩ := st_MF ν
          exact ⟨fun k a b c d f j => by rw [rI_wI, if_neg (fun z => a z.1)]; exact q1 k a b c d f j, fun j hj => by rw [rI_wI, if_neg (by omega)]; exact q2 j hj, q3⟩
        exact hF.tr (h1.tr hρ.mf)
      have e18 : rI ρ 66 18 = rI ν 66 18 := by rw [m5 18 (by omega) (by omega) (by omega), g66 18 (by omega), st_66]; simp
      have e19 : rI ρ 66 19 = rI ν 66 19 := by rw [m5 19 (by omega) (by omega) (by omega), g66 19 (by omega), st_66]; simp
      refine ⟨m3, e19, fun z => ?_, fun z => ?_⟩
      · refine key _ ?_ ?_
        · obtain ⟨q1, q2, q3⟩ := hMF
          exact ⟨fun k a b c d f j => by rw [rI_wI, rI_wI, if_neg (fun z => a z.1), if_neg (fun z => a z.1)]; exact q1 k a b c d f j, fun j hj => by rw [rI_wI, rI_wI, if_neg (by omega), if_neg (by omega)]; exact q2 j hj, q3⟩
        · rw [if_pos z]; simp [rI_wI, idC]
      · refine key _ hMF ?_
        rw [if_neg z, e18, e19]
    have e35 : rI ν 67 35 = rI μ 67 35 := by rw [e67]
    apply hV [35] 40
    simp only [InR, InL, inb, Int.toNat_natCast, wp1, wpc_z, wpc_s, stp_iconst, stp_bipush, stp_sipush, stp_lconst, stp_iload_n, stp_iload, stp_lload_n, stp_lload, stp_aload_n, stp_aload, stp_istore_n, stp_istore, stp_lstore_n, stp_lstore, stp_astore_n, stp_astore, stp_iinc, stp_iadd, stp_isub, stp_imul, stp_ineg, stp_idiv, stp_irem, stp_ladd, stp_lmul, stp_ldiv, stp_lrem, stp_ishl, stp_ishr, stp_iushr, stp_iand, stp_ior, stp_i2l, stp_i2b, stp_i2s, stp_lcmp, stp_dup, stp_dup2, stp_pop, stp_ifCond, stp_if_icmp, stp_goto, stp_tableswitch, stp_lookupswitch, stp_ldc, stp_ldc_w, stp_ldc2_w, stp_getstatic, stp_getfield, stp_putfield, stp_iaload, stp_baload, stp_iastore, stp_bastore, stp_aaload, stp_aastore, stp_invokevirtual, stp_invokestatic, stp_ireturn, stp_lreturn, stp_return_, lg, lset, okl, spl, wd, c1, cnd, tg, swT, swL, f4_0, f4_1, f4_2, f4_3, f2_0, f2_1, List.mem_cons, List.not_mem_nil, List.length_cons, List.length_nil, List.cons_append, List.nil_append, Nat.reduceAdd, Nat.reduceMul, Nat.reduceLT, Nat.reduceEqDiff, Nat.reduceLeDiff, Int.reduceAdd, Int.reduceNeg, Int.reduceToNat, Int.cast_ofNat_Int, Int.reduceNatCast, Int.toNat_zero, Int.toNat_one, Int.reduceLE, Int.reduceLT, Int.reduceEq, Int.zero_add, Int.add_zero, or_false, false_or, or_true, true_or, and_true, true_and, and_false, false_and, reduceIte, not_true_eq_false, not_false_eq_true, forall_const, false_implies, true_implies, implies_true, ne_eq, reduceCtorEq, List.all_cons, List.all_nil, Bool.and_true, Bool.and_self, decide_eq_true_eq, decide_true, dX6_pass_0, dX6_pass_1, dX6_pass_4, dX6_pass_7, dX6_pass_8, dX6_pass_11, dX6_pass_14, dX6_pass_15, dX6_pass_16, dX6_pass_17, dX6_pass_20, dX6_pass_21, dX6_pass_22, dX6_pass_25, dX6_pass_26, dX6_pass_27, dX6_pass_30, dX6_pass_33, dX6_pass_34, dX6_pass_35, dX6_pass_36, dX6_pass_37, dX6_pass_40, dX6_pass_42, dX6_pass_43, dX6_pass_46, dX6_pass_47, dX6_pass_50, dX6_pass_51, dX6_pass_52, dX6_pass_55, dX6_pass_56, dX6_pass_57, dX6_pass_60, dX6_pass_61, dX6_pass_62, dX6_pass_63, dX6_pass_66, dX6_pass_69, dX6_pass_72, dX6_pass_75, dX6_pass_76, dX6_pass_77, dX6_pass_80, FX6_138, FX6_7, FX6_129, G_X6_pass_205, G_X6_pass_218, G_X6_pass_174, G_X6_pass_200, G_X6_pass_221, G_X6_pass_224, G_X6_pass_231, kd_66, kd_67, ln_67, e35, T6_starts, T6_visitsGo, T6_judges, g13, g38, g39, g40]
    repeat' (first | exact trivial | omega | (with_reducible assumption) | exact absurd trivial (by with_reducible assumption) | contradiction | apply And.intro | intro _)
    all_goals first | (have h9 := fin _ (by assumption); rw [h9.1]; exact h9.2.2.1 (by omega)) | (have h9 := fin _ (by assumption); exact h9.2.2.2 (by omega)) | (have h9 := fin _ (by assumption); omega)
def T6_pass : TT := fun a μ K => match a with
  | [.inr (.inr o), .inl n, .inl w] => o = 66 ∧ (InR n ∧ InR w ∧ MOK μ ∧ ∀ ν, MF μ ν → K [.inl (passR (rI μ 67) n w)] ν)
  | _ => False
theorem rec_X6_pass : ∀ a μ K, T6_pass a μ K → ∃ k r, a = .inr (.inr k) :: r ∧ kd k = 6 := by
  intro a μ K h
  unfold T6_pass at h
  split at h
  · exact ⟨_, _, rfl, by rw [h.1]; rfl⟩
  · exact h.elim
theorem gk_X6_pass (l : Launch) : ∀ i n b T, G_X6_pass i = some (n, b, T) → CallOK l 5 RX6 i n b T := by
  intro i n b T h
  have hm : (i, n, b, T) ∈ GL_X6_pass := lk_mem h
  simp only [GL_X6_pass, List.mem_cons, List.not_mem_nil, or_false, Prod.mk.injEq] at hm
  rcases hm with ⟨rfl, rfl, rfl, rfl⟩ | ⟨rfl, rfl, rfl, rfl⟩ | ⟨rfl, rfl, rfl, rfl⟩ | ⟨rfl, rfl, rfl, rfl⟩ | ⟨rfl, rfl, rfl, rfl⟩ | ⟨rfl, rfl, rfl, rfl⟩ | ⟨rfl, rfl, rfl, rfl⟩
  · exact CallOK.S (d := 5) (own := RX6) (i := 205) (n := 1) (good_X6_isFar l) (by decide) (by decide) (mg 864 (by decide +kernel) (by decide +kernel)) (mg 865 (by decide +kernel) (by decide +kernel)) (mg 7 (by decide +kernel) (by decide +kernel)) (mg 866 (by decide +kernel) (by decide +kernel)) (by decide +kernel)
  · exact CallOK.S (d := 5) (own := RX6) (i := 218) (n := 1) (good_X6_isPart l) (by decide) (by decide) (mg 882 (by decide +kernel) (by decide +kernel)) (mg 883 (by decide +kernel) (by decide +kernel)) (mg 7 (by decide +kernel) (by decide +kernel)) (mg 884 (by decide +kernel) (by decide +kernel)) (by decide +kernel)
  · exact CallOK.V (d := 5) (own := RX6) (i := 174) (n := 0) (ci := 6) (good_X6_starts l) (by decide) (by decide) rfl (by decide) rec_X6_starts (mg 769 (by decide +kernel) (by decide +kernel)) (mg 771 (by decide +kernel) (by decide +kernel)) (mgs 33 (by decide +kernel) (by decide +kernel)) (mg 7 (by decide +kernel) (by decide +kernel)) (mg 772 (by decide +kernel) (by decide +kernel)) (by decide +kernel)
  · exact CallOK.V (d := 5) (own := RX6) (i := 200) (n := 1) (ci := 6) (good_X6_visitsGo l) (by decide) (by decide) rfl (by decide) rec_X6_visitsGo (mg 849 (by decide +kernel) (by decide +kernel)) (mg 851 (by decide +kernel) (by decide +kernel)) (mgs 45 (by decide +kernel) (by decide +kernel)) (mg 7 (by decide +kernel) (by decide +kernel)) (mg 852 (by decide +kernel) (by decide +kernel)) (by decide +kernel)
  · exact CallOK.V (d := 5) (own := RX6) (i := 221) (n := 1) (ci := 6) (good_X6_startsJudging l) (by decide) (by decide) rfl (by decide) rec_X6_startsJudging (mg 885 (by decide +kernel) (by decide +kernel)) (mg 887 (by decide +kernel) (by decide +kernel)) (mgs 47 (by decide +kernel) (by decide +kernel)) (mg 7 (by decide +kernel) (by decide +kernel)) (mg 888 (by decide +kernel) (by decide +kernel)) (by decide +kernel)
  · exact CallOK.V (d := 5) (own := RX6) (i := 224) (n := 2) (ci := 6) (good_X6_judges l) (by decide) (by decide) rfl (by decide) rec_X6_judges (mg 889 (by decide +kernel) (by decide +kernel)) (mg 891 (by decide +kernel) (by decide +kernel)) (mgs 48 (by decide +kernel) (by decide +kernel)) (mg 7 (by decide +kernel) (by decide +kernel)) (mg 892 (by decide +kernel) (by decide +kernel)) (by decide +kernel)
  · exact CallOK.V (d := 5) (own := RX6) (i := 231) (n := 1) (ci := 6) (good_X6_judged l) (by decide) (by decide) rfl (by decide) rec_X6_judged (mg 902 (by decide +kernel) (by decide +kernel)) (mg 904 (by decide +kernel) (by decide +kernel)) (mgs 50 (by decide +kernel) (by decide +kernel)) (mg 7 (by decide +kernel) (by decide +kernel)) (mg 905 (by decide +kernel) (by decide +kernel)) (by decide +kernel)
set_option maxRecDepth 20000 in
set_option maxHeartbeats 4000000 in
theorem body_X6_pass (o : Nat) (n : Int) (w : Int) (μ : Mem) (K : List AV → Mem → Prop) (V : Nat → List (Option AV) → List AV → Mem → Prop) (hV : Clos FX6 CX6 G_X6_pass 1 K cX6_pass V) (hT : o = 66 ∧ (InR n ∧ InR w ∧ MOK μ ∧ ∀ ν, MF μ ν → K [.inl (passR (rI μ 67) n w)] ν)) : V 0 [some (.inr (.inr o)), some (.inl n), some (.inl w), none] [] μ := by
  simp only [InR] at hT
  obtain ⟨rfl, hn, hw, hQ, hK⟩ := hT
  have hQ' := hQ
  obtain ⟨hW, h38, h39, h40⟩ := hQ
  have h35 := hW.1
  by_cases hc : (0 ≤ n ∧ n ≤ 200) ∧ 0 ≤ w ∧ w ≤ 1
  · obtain ⟨n', rfl⟩ := Int.eq_ofNat_of_zero_le hc.1.1
    have g38 : rI (stM μ) 68 38 = rI μ 67 38 := st_68 μ (by omega)
    have g39 : rI (stM μ) 68 39 = rI μ 67 39 := st_68 μ (by omega)
    have g40 : rI (stM μ) 68 40 = rI μ 67 40 := st_68 μ (by omega)
    have g13 : rI (stM μ) 66 13 = -4 := by rw [st_66]; simp
    have hW2 : WF (rI (stM μ) 68) := hW.of (st_E μ).sy
    have fin : ∀ ν, MGR (psd (-4)) (stM μ) ν n' → V 35 [some (.inr (.inr 66)), some (.inl (n' : Int)), some (.inl w), some (.inl 0)] [] (wI (wI ν 66 18 (-4)) 66 19 (rI ν 66 16)) := by
      intro ν hν
      obtain ⟨m1, m2, m3, m4, m5⟩ := mrun (st_E μ) hW (by rw [st_66]; simp) (by rw [st_66]; simp) (by rw [st_66]; simp) hν
      obtain ⟨p1, p2, p3⟩ := nx_psd4 hW n'
      rw [p3] at m3
      have hMF := (st_MF μ).tr hν.mf
      rw [m3]
      exact lp_mpass V K hV μ hQ' n' (by omega) w (by omega) (fun ν hν => by
        have hk := hK ν hν
        unfold passR at hk
        rw [if_pos hc, Int.toNat_natCast] at hk
        exact hk) (rI μ 67 35).toNat 0 (by omega) _ (by
          obtain ⟨q1, q2, q3⟩ := hMF
          exact ⟨fun k a b c d f j => by rw [rI_wI, rI_wI, if_neg (fun z => a z.1), if_neg (fun z => a z.1)]; exact q1 k a b c d f j, fun j hj => by rw [rI_wI, rI_wI, if_neg (by omega), if_neg (by omega)]; exact q2 j hj, q3⟩) (by simp [jd, rI_wI])
    apply hV [35] 40
    simp only [InR, InL, inb, Int.toNat_natCast, wp1, wpc_z, wpc_s, stp_iconst, stp_bipush, stp_sipush, stp_lconst, stp_iload_n, stp_iload, stp_lload_n, stp_lload, stp_aload_n, stp_aload, stp_istore_n, stp_istore, stp_lstore_n, stp_lstore, stp_astore_n, stp_astore, stp_iinc, stp_iadd, stp_isub, stp_imul, stp_ineg, stp_idiv, stp_irem, stp_ladd, stp_lmul, stp_ldiv, stp_lrem, stp_ishl, stp_ishr, stp_iushr, stp_iand, stp_ior, stp_i2l, stp_i2b, stp_i2s, stp_lcmp, stp_dup, stp_dup2, stp_pop, stp_ifCond, stp_if_icmp, stp_goto, stp_tableswitch, stp_lookupswitch, stp_ldc, stp_ldc_w, stp_ldc2_w, stp_getstatic, stp_getfield, stp_putfield, stp_iaload, stp_baload, stp_iastore, stp_bastore, stp_aaload, stp_aastore, stp_invokevirtual, stp_invokestatic, stp_ireturn, stp_lreturn, stp_return_, lg, lset, okl, spl, wd, c1, cnd, tg, swT, swL, f4_0, f4_1, f4_2, f4_3, f2_0, f2_1, List.mem_cons, List.not_mem_nil, List.length_cons, List.length_nil, List.cons_append, List.nil_append, Nat.reduceAdd, Nat.reduceMul, Nat.reduceLT, Nat.reduceEqDiff, Nat.reduceLeDiff, Int.reduceAdd, Int.reduceNeg, Int.reduceToNat, Int.cast_ofNat_Int, Int.reduceNatCast, Int.toNat_zero, Int.toNat_one, Int.reduceLE, Int.reduceLT, Int.reduceEq, Int.zero_add, Int.add_zero, or_false, false_or, or_true, true_or, and_true, true_and, and_false, false_and, reduceIte, not_true_eq_false, not_false_eq_true, forall_const, false_implies, true_implies, implies_true, ne_eq, reduceCtorEq, List.all_cons, List.all_nil, Bool.and_true, Bool.and_self, decide_eq_true_eq, decide_true, dX6_pass_0, dX6_pass_1, dX6_pass_4, dX6_pass_7, dX6_pass_8, dX6_pass_11, dX6_pass_14, dX6_pass_15, dX6_pass_16, dX6_pass_17, dX6_pass_20, dX6_pass_21, dX6_pass_22, dX6_pass_25, dX6_pass_26, dX6_pass_27, dX6_pass_30, dX6_pass_33, dX6_pass_34, dX6_pass_35, dX6_pass_36, dX6_pass_37, dX6_pass_40, dX6_pass_42, dX6_pass_43, dX6_pass_46, dX6_pass_47, dX6_pass_50, dX6_pass_51, dX6_pass_52, dX6_pass_55, dX6_pass_56, dX6_pass_57, dX6_pass_60, dX6_pass_61, dX6_pass_62, dX6_pass_63, dX6_pass_66, dX6_pass_69, dX6_pass_72, dX6_pass_75, dX6_pass_76, dX6_pass_77, dX6_pass_80, FX6_138, FX6_7, FX6_129, G_X6_pass_205, G_X6_pass_218, G_X6_pass_174, G_X6_pass_200, G_X6_pass_221, G_X6_pass_224, G_X6_pass_231, kd_66, T6_isFar, T6_isPart, T6_starts, T6_visitsGo, T6_startsJudging, g13, g38, g39, g40]
    repeat' (first | exact trivial | omega | (with_reducible assumption) | exact absurd trivial (by with_reducible assumption) | contradiction | apply And.intro | intro _)
    all_goals exact fin _ (by assumption)
  · have hk := hK μ MF.rf
    unfold passR at hk
    rw [if_neg hc] at hk
    apply hV [16] 40
    simp only [InR, InL, inb, Int.toNat_natCast, wp1, wpc_z, wpc_s, stp_iconst, stp_bipush, stp_sipush, stp_lconst, stp_iload_n, stp_iload, stp_lload_n, stp_lload, stp_aload_n, stp_aload, stp_istore_n, stp_istore, stp_lstore_n, stp_lstore, stp_astore_n, stp_astore, stp_iinc, stp_iadd, stp_isub, stp_imul, stp_ineg, stp_idiv, stp_irem, stp_ladd, stp_lmul, stp_ldiv, stp_lrem, stp_ishl, stp_ishr, stp_iushr, stp_iand, stp_ior, stp_i2l, stp_i2b, stp_i2s, stp_lcmp, stp_dup, stp_dup2, stp_pop, stp_ifCond, stp_if_icmp, stp_goto, stp_tableswitch, stp_lookupswitch, stp_ldc, stp_ldc_w, stp_ldc2_w, stp_getstatic, stp_getfield, stp_putfield, stp_iaload, stp_baload, stp_iastore, stp_bastore, stp_aaload, stp_aastore, stp_invokevirtual, stp_invokestatic, stp_ireturn, stp_lreturn, stp_return_, lg, lset, okl, spl, wd, c1, cnd, tg, swT, swL, f4_0, f4_1, f4_2, f4_3, f2_0, f2_1, List.mem_cons, List.not_mem_nil, List.length_cons, List.length_nil, List.cons_append, List.nil_append, Nat.reduceAdd, Nat.reduceMul, Nat.reduceLT, Nat.reduceEqDiff, Nat.reduceLeDiff, Int.reduceAdd, Int.reduceNeg, Int.reduceToNat, Int.cast_ofNat_Int, Int.reduceNatCast, Int.toNat_zero, Int.toNat_one, Int.reduceLE, Int.reduceLT, Int.reduceEq, Int.zero_add, Int.add_zero, or_false, false_or, or_true, true_or, and_true, true_and, and_false, false_and, reduceIte, not_true_eq_false, not_false_eq_true, forall_const, false_implies, true_implies, implies_true, ne_eq, reduceCtorEq, List.all_cons, List.all_nil, Bool.and_true, Bool.and_self, decide_eq_true_eq, decide_true, dX6_pass_0, dX6_pass_1, dX6_pass_4, dX6_pass_7, dX6_pass_8, dX6_pass_11, dX6_pass_14, dX6_pass_15, dX6_pass_16, dX6_pass_17, dX6_pass_20, dX6_pass_21, dX6_pass_22, dX6_pass_25, dX6_pass_26, dX6_pass_27, dX6_pass_30, dX6_pass_33, dX6_pass_34, dX6_pass_35, dX6_pass_36, dX6_pass_37, dX6_pass_40, dX6_pass_42, dX6_pass_43, dX6_pass_46, dX6_pass_47, dX6_pass_50, dX6_pass_51, dX6_pass_52, dX6_pass_55, dX6_pass_56, dX6_pass_57, dX6_pass_60, dX6_pass_61, dX6_pass_62, dX6_pass_63, dX6_pass_66, dX6_pass_69, dX6_pass_72, dX6_pass_75, dX6_pass_76, dX6_pass_77, dX6_pass_80, FX6_138, FX6_7, FX6_129, G_X6_pass_205, G_X6_pass_218, G_X6_pass_174, G_X6_pass_200, G_X6_pass_221, G_X6_pass_224, G_X6_pass_231, kd_66, T6_isFar, T6_isPart]
    repeat' (first | exact trivial | omega | (with_reducible assumption) | exact absurd trivial (by with_reducible assumption) | contradiction | apply And.intro | intro _)
theorem good_X6_pass (l : Launch) : Good l 5 yX6_pass cX6_pass 4 (some .int) T6_pass := by
  refine Good.mk 1 (by decide) rfl (by simp [retOK]) FOK6 COK6 (gk_X6_pass l) ?_ ?_
  · intro a μ K h
    unfold T6_pass at h
    split at h
    · simp [entl]
    · exact h.elim
  · intro a μ K V hV h
    unfold T6_pass at h
    split at h
    · exact body_X6_pass _ _ _ μ K V hV h
    · exact h.elim

/-- a step of a trial of the reference, by one visit -/
theorem mstep {μ ν ρ : Mem} {n : Nat} (hQ : MOK μ) (h : MGR yes (stM μ) ν n) (hv : VP ν ρ (decide ((0 : Int) = 0 ∧ rI ν 68 36 ≠ rI ν 66 13))) : MGR yes (stM μ) ρ (n + 1) := by
  have hW : WF (rI (stM μ) 68) := hQ.1.of (st_E μ).sy
  obtain ⟨x1, x2, x3⟩ := nx_WF (p := yes) hW n
  have hE := h.1
  have h13 : rI ν 66 13 = -4 := by
    rw [h.2.2.2.2.2.2.2.1 13 (by omega) (by omega) (by omega), st_66]; simp
  by_cases h0 : rI ν 68 35 = 0
  · refine h.st hW (may := true) ?_ rfl
    obtain ⟨b1, b2, b3, b4, b5, b6, b7, b8, b9, b10, b11⟩ := hv
    have e1 : ∀ b, nxt (rI ν 68) b = upF (rI ν 68) 38 (rI ν 68 38 + 1) := fun b => by unfold nxt; rw [if_pos h0]
    have e2 : ∀ b, sndI (rI ν 68) b = 0 := fun b => by unfold sndI; rw [if_pos h0]
    have e3 : ∀ b, lstI (rI ν 68) b = 0 := fun b => by unfold lstI; rw [if_pos h0]
    rw [e1] at b6
    rw [e2] at b2 b5 b9
    rw [e3] at b3 b7
    simp only [e1] at b1
    unfold VP
    rw [e2, e3]
    simp only [e1]
    exact ⟨b1, b2, b3, b4, b5, b6, b7, b8, b9, b10, b11⟩
  · have hw := (x1.of hE.sy).2.1 h0
    have : decide ((0 : Int) = 0 ∧ rI ν 68 36 ≠ rI ν 66 13) = true := by
      rw [h13]
      exact decide_eq_true ⟨rfl, by omega⟩
    rw [this] at hv
    exact h.st hW hv rfl
theorem yes_congr : ∀ n f f', Eq39 f f' → yes n f = yes n f' := fun _ _ _ _ => rfl
theorem mnow {μ ν : Mem} {n : Nat} (hQ : MOK μ) (h : MGR yes (stM μ) ν n) : Eq39 (rI ν 68) (nx yes (rI μ 67) n) := h.1.tr (nx_congr yes_congr (hQ.1.of (st_E μ).sy) (st_E μ) n).1
theorem mpre {μ ν : Mem} {n : Nat} (hQ : MOK μ) (hn : n ≤ 1000) (h : MGR yes (stM μ) ν n) : WF (rI ν 68) ∧ rI ν 68 38 ≤ 20000 ∧ (0 ≤ rI ν 68 39 ∧ rI ν 68 39 ≤ 999999) ∧ (0 ≤ rI ν 68 40 ∧ rI ν 68 40 ≤ 999999) ∧ InR (rI ν 66 13) ∧ MF μ ν ∧ rI ν 68 35 = rI μ 67 35 := by
  obtain ⟨hW, h38, h39, h40⟩ := hQ
  have hE := mnow ⟨hW, h38, h39, h40⟩ h
  obtain ⟨x1, x2, x3⟩ := nx_WF (p := yes) hW n
  have h13 : rI ν 66 13 = -4 := by
    rw [h.2.2.2.2.2.2.2.1 13 (by omega) (by omega) (by omega), st_66]; simp
  have a2 := h.2.1
  have a3 := h.2.2.1
  have a12 := h.2.2.2.2.2.2.2.2.2.2.2.1
  have a13 := h.2.2.2.2.2.2.2.2.2.2.2.2
  rw [st_68 μ (by omega)] at a2 a3
  refine ⟨x1.of hE.sy, by rw [hE 38 (by omega), x2]; omega, by omega, by omega, by rw [h13]; exact ⟨by omega, by omega⟩, (st_MF μ).tr h.mf, by rw [hE 35 (by omega), x3]⟩
def GL_X6_when : List (Nat × Nat × Bool × TT) := [(180, 2, false, T6_isStation), (174, 1, false, T6_starts), (145, 3, false, T6_of), (170, 2, false, T6_visitGoes)]
def G_X6_when : Nat → Option (Nat × Bool × TT) := fun i => GL_X6_when.lookup i
theorem G_X6_when_180 : G_X6_when 180 = some (2, false, T6_isStation) := rfl
theorem G_X6_when_174 : G_X6_when 174 = some (1, false, T6_starts) := rfl
theorem G_X6_when_145 : G_X6_when 145 = some (3, false, T6_of) := rfl
theorem G_X6_when_170 : G_X6_when 170 = some (2, false, T6_visitGoes) := rfl

set_option maxRecDepth 20000 in
set_option maxHeartbeats 4000000 in
theorem lp_mwhen (V : Nat → List (Option AV) → List AV → Mem → Prop) (K : List AV → Mem → Prop) (hV : Clos FX6 CX6 G_X6_when 1 K cX6_when V) (μ : Mem) (hQ : MOK μ) (i : Nat) (hi : (i : Int) < rI μ 67 35) (r : Int) (hK : ∀ ν, MF μ ν → K [.inl r] ν) : ∀ m n : Nat, n + m = 201 → whF (rI μ 67) i m n = r → ∀ ν, MGR yes (stM μ) ν n → V 16 [some (.inr (.inr 66)), some (.inl (i : Int)), some (.inl (n : Int))] [] ν := by
  have hW := hQ.1
  have h35 := hW.1
  intro m
  induction m with
  | zero =>
    intro n hn hr ν hG
    have hk := hK ν (mpre hQ (by omega) hG).2.2.2.2.2.1
    simp only [whF] at hr
    subst hr
    apply hV [16] 40
    simp only [InR, InL, inb, Int.toNat_natCast, wp1, wpc_z, wpc_s, stp_iconst, stp_bipush, stp_sipush, stp_lconst, stp_iload_n, stp_iload, stp_lload_n, stp_lload, stp_aload_n, stp_aload, stp_istore_n, stp_istore, stp_lstore_n, stp_lstore, stp_astore_n, stp_astore, stp_iinc, stp_iadd, stp_isub, stp_imul, stp_ineg, stp_idiv, stp_irem, stp_ladd, stp_lmul, stp_ldiv, stp_lrem, stp_ishl, stp_ishr, stp_iushr, stp_iand, stp_ior, stp_i2l, stp_i2b, stp_i2s, stp_lcmp, stp_dup, stp_dup2, stp_pop, stp_ifCond, stp_if_icmp, stp_goto, stp_tableswitch, stp_lookupswitch, stp_ldc, stp_ldc_w, stp_ldc2_w, stp_getstatic, stp_getfield, stp_putfield, stp_iaload, stp_baload, stp_iastore, stp_bastore, stp_aaload, stp_aastore, stp_invokevirtual, stp_invokestatic, stp_ireturn, stp_lreturn, stp_return_, lg, lset, okl, spl, wd, c1, cnd, tg, swT, swL, f4_0, f4_1, f4_2, f4_3, f2_0, f2_1, List.mem_cons, List.not_mem_nil, List.length_cons, List.length_nil, List.cons_append, List.nil_append, Nat.reduceAdd, Nat.reduceMul, Nat.reduceLT, Nat.reduceEqDiff, Nat.reduceLeDiff, Int.reduceAdd, Int.reduceNeg, Int.reduceToNat, Int.cast_ofNat_Int, Int.reduceNatCast, Int.toNat_zero, Int.toNat_one, Int.reduceLE, Int.reduceLT, Int.reduceEq, Int.zero_add, Int.add_zero, or_false, false_or, or_true, true_or, and_true, true_and, and_false, false_and, reduceIte, not_true_eq_false, not_false_eq_true, forall_const, false_implies, true_implies, implies_true, ne_eq, reduceCtorEq, List.all_cons, List.all_nil, Bool.and_true, Bool.and_self, decide_eq_true_eq, decide_true, dX6_when_0, dX6_when_1, dX6_when_2, dX6_when_5, dX6_when_8, dX6_when_9, dX6_when_10, dX6_when_11, dX6_when_14, dX6_when_15, dX6_when_16, dX6_when_17, dX6_when_20, dX6_when_23, dX6_when_24, dX6_when_25, dX6_when_26, dX6_when_29, dX6_when_32, dX6_when_33, dX6_when_34, dX6_when_35, dX6_when_36, dX6_when_39, dX6_when_42, dX6_when_45, dX6_when_47, G_X6_when_180, G_X6_when_174, G_X6_when_145, G_X6_when_170, kd_66]
    repeat' (first | exact trivial | omega | (with_reducible assumption) | exact absurd trivial (by with_reducible assumption) | contradiction | apply And.intro | intro _)
  | succ m ih =>
    intro n hn hr ν hG
    obtain ⟨p1, p2, p3, p4, p5, p6, p7⟩ := mpre hQ (by omega) hG
    have hE := mnow hQ hG
    have hq := q_in hW hi n
    have v1 : rI ν 68 (7 * i + 1) = nx yes (rI μ 67) n (7 * i + 1) := hE _ (by omega)
    simp only [whF] at hr
    simp only [InR] at p5
    apply hV [16] 40
    simp only [InR, InL, inb, Int.toNat_natCast, wp1, wpc_z, wpc_s, stp_iconst, stp_bipush, stp_sipush, stp_lconst, stp_iload_n, stp_iload, stp_lload_n, stp_lload, stp_aload_n, stp_aload, stp_istore_n, stp_istore, stp_lstore_n, stp_lstore, stp_astore_n, stp_astore, stp_iinc, stp_iadd, stp_isub, stp_imul, stp_ineg, stp_idiv, stp_irem, stp_ladd, stp_lmul, stp_ldiv, stp_lrem, stp_ishl, stp_ishr, stp_iushr, stp_iand, stp_ior, stp_i2l, stp_i2b, stp_i2s, stp_lcmp, stp_dup, stp_dup2, stp_pop, stp_ifCond, stp_if_icmp, stp_goto, stp_tableswitch, stp_lookupswitch, stp_ldc, stp_ldc_w, stp_ldc2_w, stp_getstatic, stp_getfield, stp_putfield, stp_iaload, stp_baload, stp_iastore, stp_bastore, stp_aaload, stp_aastore, stp_invokevirtual, stp_invokestatic, stp_ireturn, stp_lreturn, stp_return_, lg, lset, okl, spl, wd, c1, cnd, tg, swT, swL, f4_0, f4_1, f4_2, f4_3, f2_0, f2_1, List.mem_cons, List.not_mem_nil, List.length_cons, List.length_nil, List.cons_append, List.nil_append, Nat.reduceAdd, Nat.reduceMul, Nat.reduceLT, Nat.reduceEqDiff, Nat.reduceLeDiff, Int.reduceAdd, Int.reduceNeg, Int.reduceToNat, Int.cast_ofNat_Int, Int.reduceNatCast, Int.toNat_zero, Int.toNat_one, Int.reduceLE, Int.reduceLT, Int.reduceEq, Int.zero_add, Int.add_zero, or_false, false_or, or_true, true_or, and_true, true_and, and_false, false_and, reduceIte, not_true_eq_false, not_false_eq_true, forall_const, false_implies, true_implies, implies_true, ne_eq, reduceCtorEq, List.all_cons, List.all_nil, Bool.and_true, Bool.and_self, decide_eq_true_eq, decide_true, dX6_when_0, dX6_when_1, dX6_when_2, dX6_when_5, dX6_when_8, dX6_when_9, dX6_when_10, dX6_when_11, dX6_when_14, dX6_when_15, dX6_when_16, dX6_when_17, dX6_when_20, dX6_when_23, dX6_when_24, dX6_when_25, dX6_when_26, dX6_when_29, dX6_when_32, dX6_when_33, dX6_when_34, dX6_when_35, dX6_when_36, dX6_when_39, dX6_when_42, dX6_when_45, dX6_when_47, G_X6_when_180, G_X6_when_174, G_X6_when_145, G_X6_when_170, kd_66, T6_of, T6_visitGoes, tn7_1, v1]
    by_cases e : nx yes (rI μ 67) n (7 * i + 1) = 0
    · rw [if_pos e] at hr
      have hk := hK ν p6
      subst hr
      repeat' (first | exact trivial | omega | (with_reducible assumption) | exact absurd trivial (by with_reducible assumption) | contradiction | apply And.intro | intro _)
    · rw [if_neg e] at hr
      have key := fun ρ hρ => ih (n + 1) (by omega) hr ρ (mstep hQ hG hρ)
      rw [show ((n + 1 : Nat) : Int) = (n : Int) + 1 by omega] at key
      simp only [true_and, ne_eq] at key
      repeat' (first | exact trivial | omega | (with_reducible assumption) | exact absurd trivial (by with_reducible assumption) | contradiction | apply And.intro | intro _)
      all_goals exact key _ (by assumption)
def T6_when : TT := fun a μ K => match a with
  | [.inr (.inr o), .inl i] => o = 66 ∧ (InR i ∧ MOK μ ∧ ∀ ν, MF μ ν → K [.inl (whenR (rI μ 67) i)] ν)
  | _ => False
theorem rec_X6_when : ∀ a μ K, T6_when a μ K → ∃ k r, a = .inr (.inr k) :: r ∧ kd k = 6 := by
  intro a μ K h
  unfold T6_when at h
  split at h
  · exact ⟨_, _, rfl, by rw [h.1]; rfl⟩
  · exact h.elim
theorem gk_X6_when (l : Launch) : ∀ i n b T, G_X6_when i = some (n, b, T) → CallOK l 4 RX6 i n b T := by
  intro i n b T h
  have hm : (i, n, b, T) ∈ GL_X6_when := lk_mem h
  simp only [GL_X6_when, List.mem_cons, List.not_mem_nil, or_false, Prod.mk.injEq] at hm
  rcases hm with ⟨rfl, rfl, rfl, rfl⟩ | ⟨rfl, rfl, rfl, rfl⟩ | ⟨rfl, rfl, rfl, rfl⟩ | ⟨rfl, rfl, rfl, rfl⟩
  · exact CallOK.V (d := 4) (own := RX6) (i := 180) (n := 1) (ci := 6) (good_X6_isStation l) (by decide) (by decide) rfl (by decide) rec_X6_isStation (mg 796 (by decide +kernel) (by decide +kernel)) (mg 798 (by decide +kernel) (by decide +kernel)) (mgs 38 (by decide +kernel) (by decide +kernel)) (mg 7 (by decide +kernel) (by decide +kernel)) (mg 799 (by decide +kernel) (by decide +kernel)) (by decide +kernel)
  · exact CallOK.V (d := 4) (own := RX6) (i := 174) (n := 0) (ci := 6) (good_X6_starts l) (by decide) (by decide) rfl (by decide) rec_X6_starts (mg 769 (by decide +kernel) (by decide +kernel)) (mg 771 (by decide +kernel) (by decide +kernel)) (mgs 33 (by decide +kernel) (by decide +kernel)) (mg 7 (by decide +kernel) (by decide +kernel)) (mg 772 (by decide +kernel) (by decide +kernel)) (by decide +kernel)
  · exact CallOK.V (d := 4) (own := RX6) (i := 145) (n := 2) (ci := 6) (good_X6_of l) (by decide) (by decide) rfl (by decide) rec_X6_of (mg 777 (by decide +kernel) (by decide +kernel)) (mg 779 (by decide +kernel) (by decide +kernel)) (mgs 35 (by decide +kernel) (by decide +kernel)) (mg 7 (by decide +kernel) (by decide +kernel)) (mg 780 (by decide +kernel) (by decide +kernel)) (by decide +kernel)
  · exact CallOK.V (d := 4) (own := RX6) (i := 170) (n := 1) (ci := 6) (good_X6_visitGoes l) (by decide) (by decide) rfl (by decide) rec_X6_visitGoes (mg 853 (by decide +kernel) (by decide +kernel)) (mg 855 (by decide +kernel) (by decide +kernel)) (mgs 46 (by decide +kernel) (by decide +kernel)) (mg 7 (by decide +kernel) (by decide +kernel)) (mg 856 (by decide +kernel) (by decide +kernel)) (by decide +kernel)
set_option maxRecDepth 20000 in
set_option maxHeartbeats 4000000 in
theorem body_X6_when (o : Nat) (i : Int) (μ : Mem) (K : List AV → Mem → Prop) (V : Nat → List (Option AV) → List AV → Mem → Prop) (hV : Clos FX6 CX6 G_X6_when 1 K cX6_when V) (hT : o = 66 ∧ (InR i ∧ MOK μ ∧ ∀ ν, MF μ ν → K [.inl (whenR (rI μ 67) i)] ν)) : V 0 [some (.inr (.inr o)), some (.inl i), none] [] μ := by
  simp only [InR] at hT
  obtain ⟨rfl, hi, hQ, hK⟩ := hT
  have h35 := hQ.1.1
  by_cases hc : 0 ≤ i ∧ i < rI μ 67 35
  · obtain ⟨i', rfl⟩ := Int.eq_ofNat_of_zero_le hc.1
    have h := lp_mwhen V K hV μ hQ i' (by omega) (whenR (rI μ 67) i') hK 201 0 (by omega) (by unfold whenR; rw [if_pos hc, Int.toNat_natCast]) (stM μ) (MGR.rf (by rw [st_68 μ (by omega)]; exact hQ.2.2.1.2) (by rw [st_68 μ (by omega)]; exact hQ.2.2.2.2))
    apply hV [16] 40
    simp only [InR, InL, inb, Int.toNat_natCast, wp1, wpc_z, wpc_s, stp_iconst, stp_bipush, stp_sipush, stp_lconst, stp_iload_n, stp_iload, stp_lload_n, stp_lload, stp_aload_n, stp_aload, stp_istore_n, stp_istore, stp_lstore_n, stp_lstore, stp_astore_n, stp_astore, stp_iinc, stp_iadd, stp_isub, stp_imul, stp_ineg, stp_idiv, stp_irem, stp_ladd, stp_lmul, stp_ldiv, stp_lrem, stp_ishl, stp_ishr, stp_iushr, stp_iand, stp_ior, stp_i2l, stp_i2b, stp_i2s, stp_lcmp, stp_dup, stp_dup2, stp_pop, stp_ifCond, stp_if_icmp, stp_goto, stp_tableswitch, stp_lookupswitch, stp_ldc, stp_ldc_w, stp_ldc2_w, stp_getstatic, stp_getfield, stp_putfield, stp_iaload, stp_baload, stp_iastore, stp_bastore, stp_aaload, stp_aastore, stp_invokevirtual, stp_invokestatic, stp_ireturn, stp_lreturn, stp_return_, lg, lset, okl, spl, wd, c1, cnd, tg, swT, swL, f4_0, f4_1, f4_2, f4_3, f2_0, f2_1, List.mem_cons, List.not_mem_nil, List.length_cons, List.length_nil, List.cons_append, List.nil_append, Nat.reduceAdd, Nat.reduceMul, Nat.reduceLT, Nat.reduceEqDiff, Nat.reduceLeDiff, Int.reduceAdd, Int.reduceNeg, Int.reduceToNat, Int.cast_ofNat_Int, Int.reduceNatCast, Int.toNat_zero, Int.toNat_one, Int.reduceLE, Int.reduceLT, Int.reduceEq, Int.zero_add, Int.add_zero, or_false, false_or, or_true, true_or, and_true, true_and, and_false, false_and, reduceIte, not_true_eq_false, not_false_eq_true, forall_const, false_implies, true_implies, implies_true, ne_eq, reduceCtorEq, List.all_cons, List.all_nil, Bool.and_true, Bool.and_self, decide_eq_true_eq, decide_true, dX6_when_0, dX6_when_1, dX6_when_2, dX6_when_5, dX6_when_8, dX6_when_9, dX6_when_10, dX6_when_11, dX6_when_14, dX6_when_15, dX6_when_16, dX6_when_17, dX6_when_20, dX6_when_23, dX6_when_24, dX6_when_25, dX6_when_26, dX6_when_29, dX6_when_32, dX6_when_33, dX6_when_34, dX6_when_35, dX6_when_36, dX6_when_39, dX6_when_42, dX6_when_45, dX6_when_47, G_X6_when_180, G_X6_when_174, G_X6_when_145, G_X6_when_170, kd_66, T6_isStation, T6_starts]
    repeat' (first | exact trivial | omega | (with_reducible assumption) | exact absurd trivial (by with_reducible assumption) | contradiction | apply And.intro | intro _)
  · have hk := hK μ MF.rf
    unfold whenR at hk
    rw [if_neg hc] at hk
    apply hV [10] 40
    simp only [InR, InL, inb, Int.toNat_natCast, wp1, wpc_z, wpc_s, stp_iconst, stp_bipush, stp_sipush, stp_lconst, stp_iload_n, stp_iload, stp_lload_n, stp_lload, stp_aload_n, stp_aload, stp_istore_n, stp_istore, stp_lstore_n, stp_lstore, stp_astore_n, stp_astore, stp_iinc, stp_iadd, stp_isub, stp_imul, stp_ineg, stp_idiv, stp_irem, stp_ladd, stp_lmul, stp_ldiv, stp_lrem, stp_ishl, stp_ishr, stp_iushr, stp_iand, stp_ior, stp_i2l, stp_i2b, stp_i2s, stp_lcmp, stp_dup, stp_dup2, stp_pop, stp_ifCond, stp_if_icmp, stp_goto, stp_tableswitch, stp_lookupswitch, stp_ldc, stp_ldc_w, stp_ldc2_w, stp_getstatic, stp_getfield, stp_putfield, stp_iaload, stp_baload, stp_iastore, stp_bastore, stp_aaload, stp_aastore, stp_invokevirtual, stp_invokestatic, stp_ireturn, stp_lreturn, stp_return_, lg, lset, okl, spl, wd, c1, cnd, tg, swT, swL, f4_0, f4_1, f4_2, f4_3, f2_0, f2_1, List.mem_cons, List.not_mem_nil, List.length_cons, List.length_nil, List.cons_append, List.nil_append, Nat.reduceAdd, Nat.reduceMul, Nat.reduceLT, Nat.reduceEqDiff, Nat.reduceLeDiff, Int.reduceAdd, Int.reduceNeg, Int.reduceToNat, Int.cast_ofNat_Int, Int.reduceNatCast, Int.toNat_zero, Int.toNat_one, Int.reduceLE, Int.reduceLT, Int.reduceEq, Int.zero_add, Int.add_zero, or_false, false_or, or_true, true_or, and_true, true_and, and_false, false_and, reduceIte, not_true_eq_false, not_false_eq_true, forall_const, false_implies, true_implies, implies_true, ne_eq, reduceCtorEq, List.all_cons, List.all_nil, Bool.and_true, Bool.and_self, decide_eq_true_eq, decide_true, dX6_when_0, dX6_when_1, dX6_when_2, dX6_when_5, dX6_when_8, dX6_when_9, dX6_when_10, dX6_when_11, dX6_when_14, dX6_when_15, dX6_when_16, dX6_when_17, dX6_when_20, dX6_when_23, dX6_when_24, dX6_when_25, dX6_when_26, dX6_when_29, dX6_when_32, dX6_when_33, dX6_when_34, dX6_when_35, dX6_when_36, dX6_when_39, dX6_when_42, dX6_when_45, dX6_when_47, G_X6_when_180, G_X6_when_174, G_X6_when_145, G_X6_when_170, kd_66, T6_isStation]
    repeat' (first | exact trivial | omega | (with_reducible assumption) | exact absurd trivial (by with_reducible assumption) | contradiction | apply And.intro | intro _)
theorem good_X6_when (l : Launch) : Good l 4 yX6_when cX6_when 3 (some .int) T6_when := by
  refine Good.mk 1 (by decide) rfl (by simp [retOK]) FOK6 COK6 (gk_X6_when l) ?_ ?_
  · intro a μ K h
    unfold T6_when at h
    split at h
    · simp [entl]
    · exact h.elim
  · intro a μ K V hV h
    unfold T6_when at h
    split at h
    · exact body_X6_when _ _ μ K V hV h
    · exact h.elim

