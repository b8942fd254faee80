/-! the class: a ring's visit, visits, a ring as another -/
def VR (μ μ' : Mem) (B : Nat) (f : Nat → Int) (may : Bool) : Prop := RG μ' B (nxt f may) ∧ rI μ' B 5 = rI μ B 5 + sndI f may ∧ rI μ' B 6 = rI μ B 6 + lstI f may ∧ FR B μ μ'
def GL_X1_visit : List (Nat × Nat × Bool × TT) := [(41, 2, false, T1_has), (62, 1, false, T1_due), (66, 2, false, T1_come)]
def G_X1_visit : Nat → Option (Nat × Bool × TT) := fun i => GL_X1_visit.lookup i
theorem G_X1_visit_41 : G_X1_visit 41 = some (2, false, T1_has) := rfl
theorem G_X1_visit_62 : G_X1_visit 62 = some (1, false, T1_due) := rfl
theorem G_X1_visit_66 : G_X1_visit 66 = some (2, false, T1_come) := rfl

set_option maxRecDepth 20000 in
set_option maxHeartbeats 4000000 in
theorem b_visit45 (V : Nat → List (Option AV) → List AV → Mem → Prop) (K : List AV → Mem → Prop) (hV : Clos FX1 CX1 G_X1_visit 1 K cX1_visit V) (μ : Mem) (B : Nat) (hB : kd B = 1) (m s : Int) (f : Nat → Int) (may : Bool) (hR : RG μ B f) (hW : WF f) (h0 : f 35 ≠ 0) (h38 : f 38 ≤ 20000) (hs : s = sndI f may) (hK : ∀ μ', VR μ μ' B f may → K [.inl (sndI f may)] μ') : V 45 [some (.inr (.inr B)), some (.inl m), some (.inr (.inr (rR μ (B + 1) (f 36).toNat))), none, none] [.inl s] (wI μ B 4 (f 38 + 1)) := by
  have hW' := hW
  have hR' := hR
  obtain ⟨w1, w2, w3, w4⟩ := hW
  have w2 := w2 h0
  obtain ⟨i, hi⟩ := Int.eq_ofNat_of_zero_le w2.1
  have hi5 : i < 5 := by omega
  obtain ⟨r1, r2, r3, r4, r5, r6⟩ := hR
  rw [if_neg h0] at r3
  obtain ⟨k12, l5, k7⟩ := ringk hB
  have hr := r1.1 i hi5
  obtain ⟨a1, a2⟩ := k7 _ hr.1 hr.2
  have e36 : (f 36).toNat = i := by omega
  rw [e36]
  have hsn := snd_in hW' may
  rw [← hs] at hsn
  have hS := w4 i (by omega)
  have hS' := hS
  unfold SOK at hS
  obtain ⟨s1, s2, s3, s4, s5, s6, s7⟩ := hS
  have v1 := r6 i 1 (by omega) (by omega)
  have v4 := r6 i 4 (by omega) (by omega)
  have v5 := r6 i 5 (by omega) (by omega)
  have ht := tms_in (i := i) (s := s) hS' w3.2.1 ⟨hsn.1, hsn.2.1⟩
  have nB : ¬ rR μ (B + 1) i = B := by omega
  have nB' : ¬ B = rR μ (B + 1) i := by omega
  have key : ∀ fl : Int, fl = (if 0 < s then 1 else 0) → ∀ ν : Mem, ν = wI (wI (wI (wI (wI (wI μ B 4 (f 38 + 1)) (rR μ (B + 1) i) 1 (f (7 * i + 1) - s)) (rR μ (B + 1) i) 5 (f (7 * i + 5) + s)) (rR μ (B + 1) i) 6 fl) B 5 (rI μ B 5 + s)) B 3 (f 37 + (s + f (7 * i + 4))) → RG ν B (mid f i s) ∧ (∀ k : Nat, (k : Int) < f 35 → SOK (mid f i s) k) ∧ ∀ ρ, CI ν ρ B (mid f i s) (tms f i s) (f 35).toNat → RG (wI ρ B 2 (if f 36 + 1 < f 35 then f 36 + 1 else 0)) B (nxt f may) ∧ rI ρ B 2 = f 36 ∧ rI ρ B 1 = f 35 ∧ K [.inl s] (wI ρ B 2 (if f 36 + 1 < f 35 then f 36 + 1 else 0)) := by
    intro fl hfl ν hν
    have i35 : mid f i s 35 = f 35 := by rw [mid_o _ _ _ _ hi5 (by omega)]; simp
    have i36 : mid f i s 36 = f 36 := by rw [mid_o _ _ _ _ hi5 (by omega)]; simp
    have i37 : mid f i s 37 = f 37 + (s + f (7 * i + 4)) := by rw [mid_o _ _ _ _ hi5 (by omega)]; simp
    have i38 : mid f i s 38 = f 38 + 1 := by rw [mid_o _ _ _ _ hi5 (by omega)]; simp
    have cB : ∀ j, rI ν B j = if j = 3 then f 37 + (s + f (7 * i + 4)) else if j = 5 then rI μ B 5 + s else if j = 4 then f 38 + 1 else rI μ B j := by
      intro j
      rw [hν]
      simp only [rI_wI, nB', true_and, false_and, if_false]
    have cR : ∀ a j, rR ν a j = rR μ a j := by intro a j; rw [hν]; rfl
    have hFR : FR B μ ν := by
      refine ⟨fun k hk j => ?_, cR⟩
      rw [hν]
      simp only [rI_wI]
      rw [if_neg (by omega), if_neg (by omega), if_neg (by omega), if_neg (by omega), if_neg (by omega), if_neg (by omega)]
    have hSm : ∀ k : Nat, (k : Int) < f 35 → SOK (mid f i s) k := by
      intro k hk
      have := mid_SOK (may := may) hW' h0 hk
      rw [e36, ← hs] at this
      exact this
    have hRν : RG ν B (mid f i s) := by
      refine ⟨r1.of (cR _), ?_, ?_, ?_, ?_, ?_⟩
      · rw [cB, i35]; simp [r2]
      · rw [cB, i35, if_neg h0, i36]; simp [r3]
      · rw [cB, i37]; simp
      · rw [cB, i38]; simp
      · intro k c hk hc
        rw [i35] at hk
        rw [cR, mid_q f i s k c hc hi5 (by omega)]
        have hrk := r1.1 k (by omega)
        rw [hν]
        simp only [rI_wI]
        rw [if_neg (by omega), if_neg (by omega)]
        by_cases e : k = i
        · subst e
          simp only [true_and, if_true]
          rw [if_neg (show ¬ (rR μ (B + 1) k = B ∧ c = 4) by omega)]
          have := r6 k c hk hc
          by_cases c1 : c = 1
          · subst c1; simp
          · by_cases c5 : c = 5
            · subst c5; simp
            · by_cases c6 : c = 6
              · subst c6; simp [hfl]
              · rw [if_neg c6, if_neg c5, if_neg c1, if_neg c1, if_neg c5, if_neg c6]; exact this
        · have hne : ¬ rR μ (B + 1) k = rR μ (B + 1) i := fun z => e (r1.2 k i (by omega) hi5 z)
          rw [if_neg (fun z => hne z.1), if_neg (fun z => hne z.1), if_neg (fun z => hne z.1), if_neg (by omega), if_neg e]
          exact r6 k c hk hc
    refine ⟨hRν, hSm, fun ρ hρ => ?_⟩
    have hRρ := CI.RG hRν (by omega) hρ
    obtain ⟨p1, p2, p3, p4⟩ := hρ
    have hnx : ∀ j, nxt f may j = upF (cmF (mid f i s) (tms f i s) (f 35).toNat) 36 (if f 36 + 1 < f 35 then f 36 + 1 else 0) j := by
      intro j
      unfold nxt
      rw [if_neg h0, e36, ← hs]
    have hls : lstI f may = cmL (mid f i s) (tms f i s) (f 35).toNat := by
      unfold lstI
      rw [if_neg h0, e36, ← hs]
    have n35 : nxt f may 35 = f 35 := nxt_o f may (by omega) hW'
    have hRG : RG (wI ρ B 2 (if f 36 + 1 < f 35 then f 36 + 1 else 0)) B (nxt f may) := by
      obtain ⟨q1, q2, q3, q4, q5, q6⟩ := hRρ
      have x35 : cmF (mid f i s) (tms f i s) (f 35).toNat 35 = f 35 := by rw [cmF_out _ _ _ _ (fun k hk => by omega), i35]
      refine ⟨q1.of (fun _ => rfl), ?_, ?_, ?_, ?_, ?_⟩
      · rw [rI_wI, if_neg (by omega), q2, n35, x35]
      · rw [rI_wI, if_pos ⟨rfl, rfl⟩, n35, if_neg h0, hnx, upF_s]
      · rw [rI_wI, if_neg (by omega), q4, hnx, upF_n _ _ (by omega)]
      · rw [rI_wI, if_neg (by omega), q5, hnx, upF_n _ _ (by omega)]
      · intro k c hk hc
        rw [n35] at hk
        have hq := q1.1 k (by omega)
        rw [rR_wI, rI_wI, if_neg (by omega), hnx, upF_n _ _ (by omega)]
        exact q6 k c (by rw [x35]; exact hk) hc
    refine ⟨hRG, by rw [p3 2 (by omega), cB]; simp [r3], by rw [p3 1 (by omega), cB]; simp [r2], ?_⟩
    rw [hs]
    refine hK _ ⟨hRG, ?_, ?_, ?_⟩
    · rw [rI_wI, if_neg (by omega), p3 5 (by omega), cB, ← hs]; simp
    · rw [rI_wI, if_neg (by omega), p2, cB, hls]; simp
    · have := hFR.tr p4
      refine ⟨fun k hk j => ?_, this.2⟩
      rw [rI_wI, if_neg (by omega)]
      exact this.1 k hk j
  have i35 : mid f i s 35 = f 35 := by rw [mid_o _ _ _ _ hi5 (by omega)]; simp
  apply hV [] 100
  simp only [InR, InL, inb, Int.toNat_natCast, wp1, wpc_z, wpc_s, stp_iconst, stp_bipush, stp_sipush, stp_lconst, stp_iload_n, stp_iload, stp_lload_n, stp_lload, stp_aload_n, stp_aload, stp_istore_n, stp_istore, stp_lstore_n, stp_lstore, stp_astore_n, stp_astore, stp_iinc, stp_iadd, stp_isub, stp_imul, stp_ineg, stp_idiv, stp_irem, stp_ladd, stp_lmul, stp_ldiv, stp_lrem, stp_ishl, stp_ishr, stp_iushr, stp_iand, stp_ior, stp_i2l, stp_i2b, stp_i2s, stp_lcmp, stp_dup, stp_dup2, stp_pop, stp_ifCond, stp_if_icmp, stp_goto, stp_tableswitch, stp_lookupswitch, stp_ldc, stp_ldc_w, stp_ldc2_w, stp_getstatic, stp_getfield, stp_putfield, stp_iaload, stp_baload, stp_iastore, stp_bastore, stp_aaload, stp_aastore, stp_invokevirtual, stp_invokestatic, stp_ireturn, stp_lreturn, stp_return_, lg, lset, okl, spl, wd, c1, cnd, tg, swT, swL, f4_0, f4_1, f4_2, f4_3, f2_0, f2_1, List.mem_cons, List.not_mem_nil, List.length_cons, List.length_nil, List.cons_append, List.nil_append, Nat.reduceAdd, Nat.reduceMul, Nat.reduceLT, Nat.reduceEqDiff, Nat.reduceLeDiff, Int.reduceAdd, Int.reduceNeg, Int.reduceToNat, Int.cast_ofNat_Int, Int.reduceNatCast, Int.toNat_zero, Int.toNat_one, Int.reduceLE, Int.reduceLT, Int.reduceEq, Int.zero_add, Int.add_zero, or_false, false_or, or_true, true_or, and_true, true_and, and_false, false_and, reduceIte, not_true_eq_false, not_false_eq_true, forall_const, false_implies, true_implies, implies_true, ne_eq, reduceCtorEq, List.all_cons, List.all_nil, Bool.and_true, Bool.and_self, decide_eq_true_eq, decide_true, dX1_visit_0, dX1_visit_1, dX1_visit_2, dX1_visit_5, dX1_visit_6, dX1_visit_7, dX1_visit_10, dX1_visit_11, dX1_visit_12, dX1_visit_15, dX1_visit_18, dX1_visit_21, dX1_visit_22, dX1_visit_23, dX1_visit_24, dX1_visit_27, dX1_visit_28, dX1_visit_31, dX1_visit_32, dX1_visit_33, dX1_visit_34, dX1_visit_37, dX1_visit_38, dX1_visit_41, dX1_visit_44, dX1_visit_45, dX1_visit_46, dX1_visit_47, dX1_visit_48, dX1_visit_49, dX1_visit_50, dX1_visit_51, dX1_visit_52, dX1_visit_53, dX1_visit_54, dX1_visit_55, dX1_visit_56, dX1_visit_57, dX1_visit_58, dX1_visit_59, dX1_visit_60, dX1_visit_61, dX1_visit_63, dX1_visit_64, dX1_visit_67, dX1_visit_68, dX1_visit_71, dX1_visit_72, dX1_visit_73, dX1_visit_74, dX1_visit_75, dX1_visit_78, dX1_visit_79, dX1_visit_80, dX1_visit_83, dX1_visit_84, dX1_visit_87, dX1_visit_89, dX1_visit_90, dX1_visit_91, dX1_visit_94, dX1_visit_95, dX1_visit_96, dX1_visit_97, dX1_visit_98, dX1_visit_99, dX1_visit_100, dX1_visit_103, dX1_visit_104, dX1_visit_105, dX1_visit_108, dX1_visit_110, dX1_visit_111, dX1_visit_113, dX1_visit_115, dX1_visit_116, dX1_visit_117, dX1_visit_120, dX1_visit_121, dX1_visit_122, dX1_visit_125, dX1_visit_126, dX1_visit_127, dX1_visit_128, dX1_visit_131, dX1_visit_134, dX1_visit_135, dX1_visit_138, dX1_visit_139, dX1_visit_140, dX1_visit_143, dX1_visit_144, dX1_visit_147, dX1_visit_148, FX1_26, FX1_16, FX1_11, FX1_29, FX1_23, FX1_20, G_X1_visit_41, G_X1_visit_62, G_X1_visit_66, hB, k12, l5, a1, a2, rI_wI, nB, nB', r4, v1, v4, v5, T1_come]
  by_cases e : 0 < s
  · obtain ⟨k1, k2, k3⟩ := key 1 (by rw [if_pos e]) _ rfl
    unfold tms at k3 ht
    have hne : ¬ s ≤ 0 := by omega
    simp only [hne, not_false_eq_true, forall_const, false_implies, and_true, true_and]
    refine ⟨by omega, by omega, by omega, ht, mid f i s, k1, by rw [i35]; exact w1, by rw [i35]; exact k2, fun ρ hρ => ?_⟩
    rw [i35] at hρ
    obtain ⟨g1, g2, g3, g4⟩ := k3 ρ hρ
    rw [g2, g3]
    refine ⟨by omega, by omega, fun z => ?_, fun z => ?_⟩
    · rw [if_neg (by omega)] at g4; exact g4
    · rw [if_pos (by omega)] at g4; exact g4
  · obtain ⟨k1, k2, k3⟩ := key 0 (by rw [if_neg e]) _ rfl
    unfold tms at k3 ht
    have hne : s ≤ 0 := by omega
    simp only [hne, not_true_eq_false, forall_const, false_implies, and_true, true_and]
    refine ⟨by omega, by omega, by omega, ht, mid f i s, k1, by rw [i35]; exact w1, by rw [i35]; exact k2, fun ρ hρ => ?_⟩
    rw [i35] at hρ
    obtain ⟨g1, g2, g3, g4⟩ := k3 ρ hρ
    rw [g2, g3]
    refine ⟨by omega, by omega, fun z => ?_, fun z => ?_⟩
    · rw [if_neg (by omega)] at g4; exact g4
    · rw [if_pos (by omega)] at g4; exact g4
def T1_visit : TT := fun a μ K => match a with
  | [.inr (.inr B), .inl m] => kd B = 1 ∧ (∃ (f : Nat → Int) (may : Bool), RG μ B f ∧ WF f ∧ f 38 ≤ 20000 ∧ m = (if may = true then 1 else 0) ∧ ∀ μ', VR μ μ' B f may → K [.inl (sndI f may)] μ')
  | _ => False
theorem rec_X1_visit : ∀ a μ K, T1_visit a μ K → ∃ k r, a = .inr (.inr k) :: r ∧ kd k = 1 := by
  intro a μ K h
  unfold T1_visit at h
  split at h
  · exact ⟨_, _, rfl, h.1⟩
  · exact h.elim
theorem gk_X1_visit (l : Launch) : ∀ i n b T, G_X1_visit i = some (n, b, T) → CallOK l 3 RX1 i n b T := by
  intro i n b T h
  have hm : (i, n, b, T) ∈ GL_X1_visit := lk_mem h
  simp only [GL_X1_visit, List.mem_cons, List.not_mem_nil, or_false, Prod.mk.injEq] at hm
  rcases hm with ⟨rfl, rfl, rfl, rfl⟩ | ⟨rfl, rfl, rfl, rfl⟩ | ⟨rfl, rfl, rfl, rfl⟩
  · exact CallOK.V (d := 3) (own := RX1) (i := 41) (n := 1) (ci := 1) (good_X1_has l) (by decide) (by decide) rfl (by decide) rec_X1_has (mg 339 (by decide +kernel) (by decide +kernel)) (mg 313 (by decide +kernel) (by decide +kernel)) (mg 314 (by decide +kernel) (by decide +kernel)) (mg 2 (by decide +kernel) (by decide +kernel)) (mg 315 (by decide +kernel) (by decide +kernel)) (by decide +kernel)
  · exact CallOK.V (d := 3) (own := RX1) (i := 62) (n := 0) (ci := 1) (good_X1_due l) (by decide) (by decide) rfl (by decide) rec_X1_due (mg 396 (by decide +kernel) (by decide +kernel)) (mg 336 (by decide +kernel) (by decide +kernel)) (mg 337 (by decide +kernel) (by decide +kernel)) (mg 2 (by decide +kernel) (by decide +kernel)) (mg 338 (by decide +kernel) (by decide +kernel)) (by decide +kernel)
  · exact CallOK.V (d := 3) (own := RX1) (i := 66) (n := 1) (ci := 1) (good_X1_come l) (by decide) (by decide) rfl (by decide) rec_X1_come (mg 397 (by decide +kernel) (by decide +kernel)) (mg 399 (by decide +kernel) (by decide +kernel)) (mgs 12 (by decide +kernel) (by decide +kernel)) (mg 2 (by decide +kernel) (by decide +kernel)) (mg 400 (by decide +kernel) (by decide +kernel)) (by decide +kernel)
set_option maxRecDepth 20000 in
set_option maxHeartbeats 4000000 in
theorem body_X1_visit (B : Nat) (m : Int) (μ : Mem) (K : List AV → Mem → Prop) (V : Nat → List (Option AV) → List AV → Mem → Prop) (hV : Clos FX1 CX1 G_X1_visit 1 K cX1_visit V) (hT : kd B = 1 ∧ (∃ (f : Nat → Int) (may : Bool), RG μ B f ∧ WF f ∧ f 38 ≤ 20000 ∧ m = (if may = true then 1 else 0) ∧ ∀ μ', VR μ μ' B f may → K [.inl (sndI f may)] μ')) : V 0 [some (.inr (.inr B)), some (.inl m), none, none, none] [] μ := by
  obtain ⟨hB, f, may, hR, hW, h38, hm, hK⟩ := hT
  have hW' := hW
  have hR' := hR
  obtain ⟨w1, w2, w3, w4⟩ := hW
  obtain ⟨r1, r2, r3, r4, r5, r6⟩ := hR
  obtain ⟨k12, l5, k7⟩ := ringk hB
  by_cases h0 : f 35 = 0
  · rw [if_pos h0] at r3
    have h := hK (wI μ B 4 (f 38 + 1)) (by
      have en : nxt f may = upF f 38 (f 38 + 1) := by unfold nxt; rw [if_pos h0]
      refine ⟨⟨r1.of (fun _ => rfl), ?_, ?_, ?_, ?_, ?_⟩, ?_, ?_, ?_, ?_⟩
      · rw [en, upF_n _ _ (by omega), rI_wI, if_neg (by omega)]; exact r2
      · rw [en, upF_n _ _ (by omega), if_pos h0, rI_wI, if_neg (by omega)]; exact r3
      · rw [en, upF_n _ _ (by omega), rI_wI, if_neg (by omega)]; exact r4
      · rw [en, upF_s, rI_wI, if_pos ⟨rfl, rfl⟩]
      · intro k c hk hc
        rw [en, upF_n _ _ (by omega)] at hk
        omega
      · simp [rI_wI, sndI, h0]
      · simp [rI_wI, lstI, h0]
      · intro k hk j; rw [rI_wI, if_neg (by omega)]
      · intro k j; rfl)
    rw [show sndI f may = 0 by unfold sndI; rw [if_pos h0]] at h
    apply hV [] 80
    simp only [InR, InL, inb, Int.toNat_natCast, wp1, wpc_z, wpc_s, stp_iconst, stp_bipush, stp_sipush, stp_lconst, stp_iload_n, stp_iload, stp_lload_n, stp_lload, stp_aload_n, stp_aload, stp_istore_n, stp_istore, stp_lstore_n, stp_lstore, stp_astore_n, stp_astore, stp_iinc, stp_iadd, stp_isub, stp_imul, stp_ineg, stp_idiv, stp_irem, stp_ladd, stp_lmul, stp_ldiv, stp_lrem, stp_ishl, stp_ishr, stp_iushr, stp_iand, stp_ior, stp_i2l, stp_i2b, stp_i2s, stp_lcmp, stp_dup, stp_dup2, stp_pop, stp_ifCond, stp_if_icmp, stp_goto, stp_tableswitch, stp_lookupswitch, stp_ldc, stp_ldc_w, stp_ldc2_w, stp_getstatic, stp_getfield, stp_putfield, stp_iaload, stp_baload, stp_iastore, stp_bastore, stp_aaload, stp_aastore, stp_invokevirtual, stp_invokestatic, stp_ireturn, stp_lreturn, stp_return_, lg, lset, okl, spl, wd, c1, cnd, tg, swT, swL, f4_0, f4_1, f4_2, f4_3, f2_0, f2_1, List.mem_cons, List.not_mem_nil, List.length_cons, List.length_nil, List.cons_append, List.nil_append, Nat.reduceAdd, Nat.reduceMul, Nat.reduceLT, Nat.reduceEqDiff, Nat.reduceLeDiff, Int.reduceAdd, Int.reduceNeg, Int.reduceToNat, Int.cast_ofNat_Int, Int.reduceNatCast, Int.toNat_zero, Int.toNat_one, Int.reduceLE, Int.reduceLT, Int.reduceEq, Int.zero_add, Int.add_zero, or_false, false_or, or_true, true_or, and_true, true_and, and_false, false_and, reduceIte, not_true_eq_false, not_false_eq_true, forall_const, false_implies, true_implies, implies_true, ne_eq, reduceCtorEq, List.all_cons, List.all_nil, Bool.and_true, Bool.and_self, decide_eq_true_eq, decide_true, dX1_visit_0, dX1_visit_1, dX1_visit_2, dX1_visit_5, dX1_visit_6, dX1_visit_7, dX1_visit_10, dX1_visit_11, dX1_visit_12, dX1_visit_15, dX1_visit_18, dX1_visit_21, dX1_visit_22, dX1_visit_23, dX1_visit_24, dX1_visit_27, dX1_visit_28, dX1_visit_31, dX1_visit_32, dX1_visit_33, dX1_visit_34, dX1_visit_37, dX1_visit_38, dX1_visit_41, dX1_visit_44, dX1_visit_45, dX1_visit_46, dX1_visit_47, dX1_visit_48, dX1_visit_49, dX1_visit_50, dX1_visit_51, dX1_visit_52, dX1_visit_53, dX1_visit_54, dX1_visit_55, dX1_visit_56, dX1_visit_57, dX1_visit_58, dX1_visit_59, dX1_visit_60, dX1_visit_61, dX1_visit_63, dX1_visit_64, dX1_visit_67, dX1_visit_68, dX1_visit_71, dX1_visit_72, dX1_visit_73, dX1_visit_74, dX1_visit_75, dX1_visit_78, dX1_visit_79, dX1_visit_80, dX1_visit_83, dX1_visit_84, dX1_visit_87, dX1_visit_89, dX1_visit_90, dX1_visit_91, dX1_visit_94, dX1_visit_95, dX1_visit_96, dX1_visit_97, dX1_visit_98, dX1_visit_99, dX1_visit_100, dX1_visit_103, dX1_visit_104, dX1_visit_105, dX1_visit_108, dX1_visit_110, dX1_visit_111, dX1_visit_113, dX1_visit_115, dX1_visit_116, dX1_visit_117, dX1_visit_120, dX1_visit_121, dX1_visit_122, dX1_visit_125, dX1_visit_126, dX1_visit_127, dX1_visit_128, dX1_visit_131, dX1_visit_134, dX1_visit_135, dX1_visit_138, dX1_visit_139, dX1_visit_140, dX1_visit_143, dX1_visit_144, dX1_visit_147, dX1_visit_148, FX1_26, FX1_16, FX1_11, FX1_29, FX1_23, FX1_20, G_X1_visit_41, G_X1_visit_62, G_X1_visit_66, hB, T1_has, rI_wI, r2, r3, r5]
    repeat' (first | exact trivial | omega | (with_reducible assumption) | exact absurd trivial (by with_reducible assumption) | contradiction | apply And.intro | intro _)
  · rw [if_neg h0] at r3
    have w2 := w2 h0
    have hr := r1.1 (f 36).toNat (by omega)
    have k45 := fun s hs => b_visit45 V K hV μ B hB m s f may hR' hW' h0 h38 hs hK
    apply hV [45] 60
    simp only [InR, InL, inb, Int.toNat_natCast, wp1, wpc_z, wpc_s, stp_iconst, stp_bipush, stp_sipush, stp_lconst, stp_iload_n, stp_iload, stp_lload_n, stp_lload, stp_aload_n, stp_aload, stp_istore_n, stp_istore, stp_lstore_n, stp_lstore, stp_astore_n, stp_astore, stp_iinc, stp_iadd, stp_isub, stp_imul, stp_ineg, stp_idiv, stp_irem, stp_ladd, stp_lmul, stp_ldiv, stp_lrem, stp_ishl, stp_ishr, stp_iushr, stp_iand, stp_ior, stp_i2l, stp_i2b, stp_i2s, stp_lcmp, stp_dup, stp_dup2, stp_pop, stp_ifCond, stp_if_icmp, stp_goto, stp_tableswitch, stp_lookupswitch, stp_ldc, stp_ldc_w, stp_ldc2_w, stp_getstatic, stp_getfield, stp_putfield, stp_iaload, stp_baload, stp_iastore, stp_bastore, stp_aaload, stp_aastore, stp_invokevirtual, stp_invokestatic, stp_ireturn, stp_lreturn, stp_return_, lg, lset, okl, spl, wd, c1, cnd, tg, swT, swL, f4_0, f4_1, f4_2, f4_3, f2_0, f2_1, List.mem_cons, List.not_mem_nil, List.length_cons, List.length_nil, List.cons_append, List.nil_append, Nat.reduceAdd, Nat.reduceMul, Nat.reduceLT, Nat.reduceEqDiff, Nat.reduceLeDiff, Int.reduceAdd, Int.reduceNeg, Int.reduceToNat, Int.cast_ofNat_Int, Int.reduceNatCast, Int.toNat_zero, Int.toNat_one, Int.reduceLE, Int.reduceLT, Int.reduceEq, Int.zero_add, Int.add_zero, or_false, false_or, or_true, true_or, and_true, true_and, and_false, false_and, reduceIte, not_true_eq_false, not_false_eq_true, forall_const, false_implies, true_implies, implies_true, ne_eq, reduceCtorEq, List.all_cons, List.all_nil, Bool.and_true, Bool.and_self, decide_eq_true_eq, decide_true, dX1_visit_0, dX1_visit_1, dX1_visit_2, dX1_visit_5, dX1_visit_6, dX1_visit_7, dX1_visit_10, dX1_visit_11, dX1_visit_12, dX1_visit_15, dX1_visit_18, dX1_visit_21, dX1_visit_22, dX1_visit_23, dX1_visit_24, dX1_visit_27, dX1_visit_28, dX1_visit_31, dX1_visit_32, dX1_visit_33, dX1_visit_34, dX1_visit_37, dX1_visit_38, dX1_visit_41, dX1_visit_44, dX1_visit_45, dX1_visit_46, dX1_visit_47, dX1_visit_48, dX1_visit_49, dX1_visit_50, dX1_visit_51, dX1_visit_52, dX1_visit_53, dX1_visit_54, dX1_visit_55, dX1_visit_56, dX1_visit_57, dX1_visit_58, dX1_visit_59, dX1_visit_60, dX1_visit_61, dX1_visit_63, dX1_visit_64, dX1_visit_67, dX1_visit_68, dX1_visit_71, dX1_visit_72, dX1_visit_73, dX1_visit_74, dX1_visit_75, dX1_visit_78, dX1_visit_79, dX1_visit_80, dX1_visit_83, dX1_visit_84, dX1_visit_87, dX1_visit_89, dX1_visit_90, dX1_visit_91, dX1_visit_94, dX1_visit_95, dX1_visit_96, dX1_visit_97, dX1_visit_98, dX1_visit_99, dX1_visit_100, dX1_visit_103, dX1_visit_104, dX1_visit_105, dX1_visit_108, dX1_visit_110, dX1_visit_111, dX1_visit_113, dX1_visit_115, dX1_visit_116, dX1_visit_117, dX1_visit_120, dX1_visit_121, dX1_visit_122, dX1_visit_125, dX1_visit_126, dX1_visit_127, dX1_visit_128, dX1_visit_131, dX1_visit_134, dX1_visit_135, dX1_visit_138, dX1_visit_139, dX1_visit_140, dX1_visit_143, dX1_visit_144, dX1_visit_147, dX1_visit_148, FX1_26, FX1_16, FX1_11, FX1_29, FX1_23, FX1_20, G_X1_visit_41, G_X1_visit_62, G_X1_visit_66, hB, T1_has, T1_due, rI_wI, r2, r3, r5, k12, l5, elr k12, rR_wI]
    have hR2 : RG (wI μ B 4 (f 38 + 1)) B (upF f 38 (f 38 + 1)) := by
      refine ⟨r1.of (fun _ => rfl), ?_, ?_, ?_, ?_, ?_⟩
      · rw [rI_wI, if_neg (by omega), upF_n _ _ (by omega)]; exact r2
      · rw [rI_wI, if_neg (by omega), upF_n _ _ (by omega), upF_n _ _ (by omega), if_neg h0]; exact r3
      · rw [rI_wI, if_neg (by omega), upF_n _ _ (by omega)]; exact r4
      · rw [rI_wI, if_pos ⟨rfl, rfl⟩, upF_s]
      · intro k c hk hc
        rw [upF_n _ _ (by omega)] at hk
        have := r1.1 k (by omega)
        rw [rR_wI, rI_wI, if_neg (by omega), upF_n _ _ (by omega)]
        exact r6 k c hk hc
    have hW2 : WF (upF f 38 (f 38 + 1)) := by
      refine ⟨by rw [upF_n _ _ (by omega)]; exact w1, fun _ => by rw [upF_n _ _ (by omega), upF_n _ _ (by omega)]; exact w2, by rw [upF_s, upF_n _ _ (by omega)]; omega, ?_⟩
      intro k hk
      rw [upF_n _ _ (by omega)] at hk
      exact SOK_congr (fun x hx => upF_n _ _ (by omega)) (by rw [upF_s]; omega) (by omega) (w4 k hk)
    have hd : due (upF f 38 (f 38 + 1)) (f 36).toNat = due f (f 36).toNat := due_congr (f := f) (f' := upF f 38 (f 38 + 1)) (i := (f 36).toNat) (fun x hx => upF_n (j := 38) f _ (by omega)) w1.2 (by omega)
    cases may with
    | true =>
      have k := k45 (due f (f 36).toNat) (by unfold sndI; rw [if_neg h0]; simp)
      simp only [if_true] at hm
      subst hm
      repeat' (first | exact trivial | omega | (with_reducible assumption) | exact absurd trivial (by with_reducible assumption) | contradiction | apply And.intro | intro _)
      refine ⟨upF f 38 (f 38 + 1), hR2, hW2, ?_⟩
      rw [upF_n _ _ (show 35 ≠ 38 by omega), if_neg h0, upF_n _ _ (show 36 ≠ 38 by omega), hd]
      exact k
    | false =>
      have k := k45 0 (by unfold sndI; simp)
      simp only [Bool.false_eq_true, if_false] at hm
      subst hm
      repeat' (first | exact trivial | omega | (with_reducible assumption) | exact absurd trivial (by with_reducible assumption) | contradiction | apply And.intro | intro _)
theorem good_X1_visit (l : Launch) : Good l 3 yX1_visit cX1_visit 5 (some .int) T1_visit := by
  refine Good.mk 1 (by decide) rfl (by simp [retOK]) FOK1 COK1 (gk_X1_visit l) ?_ ?_
  · intro a μ K h
    unfold T1_visit at h
    split at h
    · simp [entl]
    · exact h.elim
  · intro a μ K V hV h
    unfold T1_visit at h
    split at h
    · exact body_X1_visit _ _ μ K V hV h
    · exact h.elim

/-- visits one behind another; p says which may send -/
def nx (p : Nat → (Nat → Int) → Bool) (f : Nat → Int) : Nat → Nat → Int
  | 0 => f
  | n + 1 => nxt (nx p f n) (p n (nx p f n))
def sS (p : Nat → (Nat → Int) → Bool) (f : Nat → Int) : Nat → Int
  | 0 => 0
  | n + 1 => sS p f n + sndI (nx p f n) (p n (nx p f n))
def sL (p : Nat → (Nat → Int) → Bool) (f : Nat → Int) : Nat → Int
  | 0 => 0
  | n + 1 => sL p f n + lstI (nx p f n) (p n (nx p f n))
def yes : Nat → (Nat → Int) → Bool := fun _ _ => true
theorem nxt_38 {f : Nat → Int} (may : Bool) (h : WF f) : nxt f may 38 = f 38 + 1 := by
  by_cases h0 : f 35 = 0
  · unfold nxt; rw [if_pos h0, upF_s]
  · exact (nxt_t f may h h0).2.1
theorem nx_WF {p : Nat → (Nat → Int) → Bool} {f : Nat → Int} (h : WF f) : ∀ n, WF (nx p f n) ∧ nx p f n 38 = f 38 + n ∧ nx p f n 35 = f 35
  | 0 => ⟨h, by simp [nx], rfl⟩
  | n + 1 => by
    obtain ⟨h1, h2, h3⟩ := nx_WF (p := p) h n
    refine ⟨nxt_WF _ h1, ?_, ?_⟩
    · show nxt _ _ 38 = _
      rw [nxt_38 _ h1, h2]; omega
    · show nxt _ _ 35 = _
      rw [nxt_o _ _ (by omega) h1, h3]
/-- a ring behind n visits -/
def GR (p : Nat → (Nat → Int) → Bool) (μ μ' : Mem) (B : Nat) (f : Nat → Int) (n : Nat) : Prop := RG μ' B (nx p f n) ∧ rI μ' B 5 = rI μ B 5 + sS p f n ∧ rI μ' B 6 = rI μ B 6 + sL p f n ∧ FR B μ μ'
theorem GR.rf {p : Nat → (Nat → Int) → Bool} {μ : Mem} {B : Nat} {f : Nat → Int} (h : RG μ B f) : GR p μ μ B f 0 := ⟨h, by simp [sS], by simp [sL], FR.rf⟩
theorem GR.st {p : Nat → (Nat → Int) → Bool} {μ ν ρ : Mem} {B : Nat} {f : Nat → Int} {n : Nat} (h : GR p μ ν B f n) (h2 : VR ν ρ B (nx p f n) (p n (nx p f n))) : GR p μ ρ B f (n + 1) := by
  obtain ⟨a1, a2, a3, a4⟩ := h
  obtain ⟨b1, b2, b3, b4⟩ := h2
  refine ⟨b1, ?_, ?_, a4.tr b4⟩
  · rw [b2, a2, sS]; omega
  · rw [b3, a3, sL]; omega
def GL_X1_go : List (Nat × Nat × Bool × TT) := [(58, 2, false, T1_visit)]
def G_X1_go : Nat → Option (Nat × Bool × TT) := fun i => GL_X1_go.lookup i
theorem G_X1_go_58 : G_X1_go 58 = some (2, false, T1_visit) := rfl

set_option maxRecDepth 20000 in
set_option maxHeartbeats 4000000 in
theorem lp_go (V : Nat → List (Option AV) → List AV → Mem → Prop) (K : List AV → Mem → Prop) (hV : Clos FX1 CX1 G_X1_go 0 K cX1_go V) (μ : Mem) (B : Nat) (hB : kd B = 1) (f : Nat → Int) (hW : WF f) (e : Nat) (he : e ≤ 1000) (h38 : f 38 + e ≤ 20000) (hK : ∀ ν, GR yes μ ν B f e → K [] ν) : ∀ m n : Nat, n + m = e → ∀ ν, GR yes μ ν B f n → V 2 [some (.inr (.inr B)), some (.inl (e : Int)), some (.inl (n : Int))] [] ν := by
  intro m
  induction m with
  | zero =>
    intro n hn ν hG
    apply hV [2] 40
    simp only [InR, InL, inb, Int.toNat_natCast, wp1, wpc_z, wpc_s, stp_iconst, stp_bipush, stp_sipush, stp_lconst, stp_iload_n, stp_iload, stp_lload_n, stp_lload, stp_aload_n, stp_aload, stp_istore_n, stp_istore, stp_lstore_n, stp_lstore, stp_astore_n, stp_astore, stp_iinc, stp_iadd, stp_isub, stp_imul, stp_ineg, stp_idiv, stp_irem, stp_ladd, stp_lmul, stp_ldiv, stp_lrem, stp_ishl, stp_ishr, stp_iushr, stp_iand, stp_ior, stp_i2l, stp_i2b, stp_i2s, stp_lcmp, stp_dup, stp_dup2, stp_pop, stp_ifCond, stp_if_icmp, stp_goto, stp_tableswitch, stp_lookupswitch, stp_ldc, stp_ldc_w, stp_ldc2_w, stp_getstatic, stp_getfield, stp_putfield, stp_iaload, stp_baload, stp_iastore, stp_bastore, stp_aaload, stp_aastore, stp_invokevirtual, stp_invokestatic, stp_ireturn, stp_lreturn, stp_return_, lg, lset, okl, spl, wd, c1, cnd, tg, swT, swL, f4_0, f4_1, f4_2, f4_3, f2_0, f2_1, List.mem_cons, List.not_mem_nil, List.length_cons, List.length_nil, List.cons_append, List.nil_append, Nat.reduceAdd, Nat.reduceMul, Nat.reduceLT, Nat.reduceEqDiff, Nat.reduceLeDiff, Int.reduceAdd, Int.reduceNeg, Int.reduceToNat, Int.cast_ofNat_Int, Int.reduceNatCast, Int.toNat_zero, Int.toNat_one, Int.reduceLE, Int.reduceLT, Int.reduceEq, Int.zero_add, Int.add_zero, or_false, false_or, or_true, true_or, and_true, true_and, and_false, false_and, reduceIte, not_true_eq_false, not_false_eq_true, forall_const, false_implies, true_implies, implies_true, ne_eq, reduceCtorEq, List.all_cons, List.all_nil, Bool.and_true, Bool.and_self, decide_eq_true_eq, decide_true, dX1_go_0, dX1_go_1, dX1_go_2, dX1_go_3, dX1_go_4, dX1_go_7, dX1_go_8, dX1_go_9, dX1_go_12, dX1_go_13, dX1_go_16, dX1_go_19, G_X1_go_58, hB]
    have := hK ν (by rw [show e = n by omega]; exact hG)
    repeat' (first | exact trivial | omega | (with_reducible assumption) | exact absurd trivial (by with_reducible assumption) | contradiction | apply And.intro | intro _)
  | succ m ih =>
    intro n hn ν hG
    obtain ⟨x1, x2, x3⟩ := nx_WF (p := yes) hW n
    apply hV [2] 40
    simp only [InR, InL, inb, Int.toNat_natCast, wp1, wpc_z, wpc_s, stp_iconst, stp_bipush, stp_sipush, stp_lconst, stp_iload_n, stp_iload, stp_lload_n, stp_lload, stp_aload_n, stp_aload, stp_istore_n, stp_istore, stp_lstore_n, stp_lstore, stp_astore_n, stp_astore, stp_iinc, stp_iadd, stp_isub, stp_imul, stp_ineg, stp_idiv, stp_irem, stp_ladd, stp_lmul, stp_ldiv, stp_lrem, stp_ishl, stp_ishr, stp_iushr, stp_iand, stp_ior, stp_i2l, stp_i2b, stp_i2s, stp_lcmp, stp_dup, stp_dup2, stp_pop, stp_ifCond, stp_if_icmp, stp_goto, stp_tableswitch, stp_lookupswitch, stp_ldc, stp_ldc_w, stp_ldc2_w, stp_getstatic, stp_getfield, stp_putfield, stp_iaload, stp_baload, stp_iastore, stp_bastore, stp_aaload, stp_aastore, stp_invokevirtual, stp_invokestatic, stp_ireturn, stp_lreturn, stp_return_, lg, lset, okl, spl, wd, c1, cnd, tg, swT, swL, f4_0, f4_1, f4_2, f4_3, f2_0, f2_1, List.mem_cons, List.not_mem_nil, List.length_cons, List.length_nil, List.cons_append, List.nil_append, Nat.reduceAdd, Nat.reduceMul, Nat.reduceLT, Nat.reduceEqDiff, Nat.reduceLeDiff, Int.reduceAdd, Int.reduceNeg, Int.reduceToNat, Int.cast_ofNat_Int, Int.reduceNatCast, Int.toNat_zero, Int.toNat_one, Int.reduceLE, Int.reduceLT, Int.reduceEq, Int.zero_add, Int.add_zero, or_false, false_or, or_true, true_or, and_true, true_and, and_false, false_and, reduceIte, not_true_eq_false, not_false_eq_true, forall_const, false_implies, true_implies, implies_true, ne_eq, reduceCtorEq, List.all_cons, List.all_nil, Bool.and_true, Bool.and_self, decide_eq_true_eq, decide_true, dX1_go_0, dX1_go_1, dX1_go_2, dX1_go_3, dX1_go_4, dX1_go_7, dX1_go_8, dX1_go_9, dX1_go_12, dX1_go_13, dX1_go_16, dX1_go_19, G_X1_go_58, hB, T1_visit]
    repeat' (first | exact trivial | omega | (with_reducible assumption) | exact absurd trivial (by with_reducible assumption) | contradiction | apply And.intro | intro _)
    refine ⟨nx yes f n, true, hG.1, x1, by omega, by simp, fun ρ hρ => ?_⟩
    have h := ih (n + 1) (by omega) ρ (hG.st hρ)
    rw [show ((n + 1 : Nat) : Int) = (n : Int) + 1 by omega] at h
    exact h
def T1_go : TT := fun a μ K => match a with
  | [.inr (.inr B), .inl n] => kd B = 1 ∧ ((0 ≤ n ∧ n ≤ 1000) ∧ ∃ f, RG μ B f ∧ WF f ∧ f 38 + n ≤ 20000 ∧ ∀ ν, GR yes μ ν B f n.toNat → K [] ν)
  | _ => False
theorem rec_X1_go : ∀ a μ K, T1_go a μ K → ∃ k r, a = .inr (.inr k) :: r ∧ kd k = 1 := by
  intro a μ K h
  unfold T1_go at h
  split at h
  · exact ⟨_, _, rfl, h.1⟩
  · exact h.elim
theorem gk_X1_go (l : Launch) : ∀ i n b T, G_X1_go i = some (n, b, T) → CallOK l 4 RX1 i n b T := by
  intro i n b T h
  have hm : (i, n, b, T) ∈ GL_X1_go := lk_mem h
  simp only [GL_X1_go, List.mem_cons, List.not_mem_nil, or_false, Prod.mk.injEq] at hm
  rcases hm with ⟨rfl, rfl, rfl, rfl⟩
  · exact CallOK.V (d := 4) (own := RX1) (i := 58) (n := 1) (ci := 1) (good_X1_visit l) (by decide) (by decide) rfl (by decide) rec_X1_visit (mg 414 (by decide +kernel) (by decide +kernel)) (mg 393 (by decide +kernel) (by decide +kernel)) (mg 394 (by decide +kernel) (by decide +kernel)) (mg 2 (by decide +kernel) (by decide +kernel)) (mg 395 (by decide +kernel) (by decide +kernel)) (by decide +kernel)
set_option maxRecDepth 20000 in
set_option maxHeartbeats 4000000 in
theorem body_X1_go (B : Nat) (n : Int) (μ : Mem) (K : List AV → Mem → Prop) (V : Nat → List (Option AV) → List AV → Mem → Prop) (hV : Clos FX1 CX1 G_X1_go 0 K cX1_go V) (hT : kd B = 1 ∧ ((0 ≤ n ∧ n ≤ 1000) ∧ ∃ f, RG μ B f ∧ WF f ∧ f 38 + n ≤ 20000 ∧ ∀ ν, GR yes μ ν B f n.toNat → K [] ν)) : V 0 [some (.inr (.inr B)), some (.inl n), none] [] μ := by
  obtain ⟨hB, ⟨h1, h2⟩, f, hR, hW, h38, hK⟩ := hT
  obtain ⟨e, rfl⟩ := Int.eq_ofNat_of_zero_le h1
  apply hV [2] 40
  simp only [InR, InL, inb, Int.toNat_natCast, wp1, wpc_z, wpc_s, stp_iconst, stp_bipush, stp_sipush, stp_lconst, stp_iload_n, stp_iload, stp_lload_n, stp_lload, stp_aload_n, stp_aload, stp_istore_n, stp_istore, stp_lstore_n, stp_lstore, stp_astore_n, stp_astore, stp_iinc, stp_iadd, stp_isub, stp_imul, stp_ineg, stp_idiv, stp_irem, stp_ladd, stp_lmul, stp_ldiv, stp_lrem, stp_ishl, stp_ishr, stp_iushr, stp_iand, stp_ior, stp_i2l, stp_i2b, stp_i2s, stp_lcmp, stp_dup, stp_dup2, stp_pop, stp_ifCond, stp_if_icmp, stp_goto, stp_tableswitch, stp_lookupswitch, stp_ldc, stp_ldc_w, stp_ldc2_w, stp_getstatic, stp_getfield, stp_putfield, stp_iaload, stp_baload, stp_iastore, stp_bastore, stp_aaload, stp_aastore, stp_invokevirtual, stp_invokestatic, stp_ireturn, stp_lreturn, stp_return_, lg, lset, okl, spl, wd, c1, cnd, tg, swT, swL, f4_0, f4_1, f4_2, f4_3, f2_0, f2_1, List.mem_cons, List.not_mem_nil, List.length_cons, List.length_nil, List.cons_append, List.nil_append, Nat.reduceAdd, Nat.reduceMul, Nat.reduceLT, Nat.reduceEqDiff, Nat.reduceLeDiff, Int.reduceAdd, Int.reduceNeg, Int.reduceToNat, Int.cast_ofNat_Int, Int.reduceNatCast, Int.toNat_zero, Int.toNat_one, Int.reduceLE, Int.reduceLT, Int.reduceEq, Int.zero_add, Int.add_zero, or_false, false_or, or_true, true_or, and_true, true_and, and_false, false_and, reduceIte, not_true_eq_false, not_false_eq_true, forall_const, false_implies, true_implies, implies_true, ne_eq, reduceCtorEq, List.all_cons, List.all_nil, Bool.and_true, Bool.and_self, decide_eq_true_eq, decide_true, dX1_go_0, dX1_go_1, dX1_go_2, dX1_go_3, dX1_go_4, dX1_go_7, dX1_go_8, dX1_go_9, dX1_go_12, dX1_go_13, dX1_go_16, dX1_go_19, G_X1_go_58, hB]
  exact lp_go V K hV μ B hB f hW e (by omega) h38 hK e 0 (by omega) μ (GR.rf hR)
theorem good_X1_go (l : Launch) : Good l 4 yX1_go cX1_go 3 none T1_go := by
  refine Good.mk 0 (by decide) rfl (by simp [retOK]) FOK1 COK1 (gk_X1_go l) ?_ ?_
  · intro a μ K h
    unfold T1_go at h
    split at h
    · simp [entl]
    · exact h.elim
  · intro a μ K V hV h
    unfold T1_go at h
    split at h
    · exact body_X1_go _ _ μ K V hV h
    · exact h.elim

theorem rings4 : ∀ B, B < 79 → kd B = 1 → B = 1 ∨ B = 8 ∨ B = 23 ∨ B = 35 := by decide +kernel
theorem rings_apart (B : Nat) (h1 : B < 79) (O : Nat) (h2 : O < 79) (h3 : kd B = 1) (h4 : kd O = 1) (h5 : B ≠ O) : B + 7 ≤ O ∨ O + 7 ≤ B := by
  have a := rings4 B h1 h3
  have b := rings4 O h2 h4
  omega
/-- a ring becomes as another -/
def KI (μ ν : Mem) (B O : Nat) (f : Nat → Int) (n : Nat) : Prop := (∀ i c : Nat, i < n → c < 7 → rI ν (rR μ (B + 1) i) c = f (7 * i + c)) ∧ (∀ j, rI ν B j = rI μ B j) ∧ FR B μ ν
def GL_X1_copyFrom : List (Nat × Nat × Bool × TT) := [(35, 5, true, T_copy)]
def G_X1_copyFrom : Nat → Option (Nat × Bool × TT) := fun i => GL_X1_copyFrom.lookup i
theorem G_X1_copyFrom_35 : G_X1_copyFrom 35 = some (5, true, T_copy) := rfl

set_option maxRecDepth 20000 in
set_option maxHeartbeats 4000000 in
theorem lp_copyFrom (V : Nat → List (Option AV) → List AV → Mem → Prop) (K : List AV → Mem → Prop) (hV : Clos FX1 CX1 G_X1_copyFrom 0 K cX1_copyFrom V) (μ : Mem) (B O : Nat) (hB : kd B = 1) (hO : kd O = 1) (hap : B + 7 ≤ O ∨ O + 7 ≤ B) (f : Nat → Int) (hR : RG μ O f) (hP : RP μ B) (hm : 0 ≤ f 35 ∧ f 35 ≤ 5) (hK : ∀ ν, RG ν B f ∧ rI ν B 5 = rI μ O 5 ∧ rI ν B 6 = rI μ O 6 ∧ FR B μ ν → K [] ν) : ∀ m n : Nat, n + m = (f 35).toNat → ∀ ν, KI μ ν B O f n → V 2 [some (.inr (.inr B)), some (.inr (.inr O)), some (.inl (n : Int))] [] ν := by
  obtain ⟨r1, r2, r3, r4, r5, r6⟩ := hR
  obtain ⟨k12, l5, k7⟩ := ringk hB
  obtain ⟨k12', l5', k7'⟩ := ringk hO
  intro m
  induction m with
  | zero =>
    intro n hn ν hC
    obtain ⟨c1, c2, c3⟩ := hC
    have eO : ∀ j, rI ν O j = rI μ O j := c3.1 O (by omega)
    have nOB : ¬ O = B := by omega
    have h := hK (wI (wI (wI (wI (wI (wI ν B 1 (f 35)) B 2 (rI μ O 2)) B 3 (f 37)) B 4 (f 38)) B 5 (rI μ O 5)) B 6 (rI μ O 6)) (by
      refine ⟨⟨hP.of (c3.2 _), ?_, ?_, ?_, ?_, ?_⟩, ?_, ?_, ?_, ?_⟩
      · simp [rI_wI]
      · simp [rI_wI, r3]
      · simp [rI_wI]
      · simp [rI_wI]
      · intro i c hi hc
        have := hP.1 i (by omega)
        rw [rR_wI, rR_wI, rR_wI, rR_wI, rR_wI, rR_wI, c3.2]
        simp only [rI_wI]
        rw [if_neg (by omega), if_neg (by omega), if_neg (by omega), if_neg (by omega), if_neg (by omega), if_neg (by omega)]
        exact c1 i c (by omega) hc
      · simp [rI_wI]
      · simp [rI_wI]
      · intro k hk j
        simp only [rI_wI]
        rw [if_neg (by omega), if_neg (by omega), if_neg (by omega), if_neg (by omega), if_neg (by omega), if_neg (by omega)]
        exact c3.1 k hk j
      · intro k j; exact c3.2 k j)
    apply hV [2] 60
    simp only [InR, InL, inb, Int.toNat_natCast, wp1, wpc_z, wpc_s, stp_iconst, stp_bipush, stp_sipush, stp_lconst, stp_iload_n, stp_iload, stp_lload_n, stp_lload, stp_aload_n, stp_aload, stp_istore_n, stp_istore, stp_lstore_n, stp_lstore, stp_astore_n, stp_astore, stp_iinc, stp_iadd, stp_isub, stp_imul, stp_ineg, stp_idiv, stp_irem, stp_ladd, stp_lmul, stp_ldiv, stp_lrem, stp_ishl, stp_ishr, stp_iushr, stp_iand, stp_ior, stp_i2l, stp_i2b, stp_i2s, stp_lcmp, stp_dup, stp_dup2, stp_pop, stp_ifCond, stp_if_icmp, stp_goto, stp_tableswitch, stp_lookupswitch, stp_ldc, stp_ldc_w, stp_ldc2_w, stp_getstatic, stp_getfield, stp_putfield, stp_iaload, stp_baload, stp_iastore, stp_bastore, stp_aaload, stp_aastore, stp_invokevirtual, stp_invokestatic, stp_ireturn, stp_lreturn, stp_return_, lg, lset, okl, spl, wd, c1, cnd, tg, swT, swL, f4_0, f4_1, f4_2, f4_3, f2_0, f2_1, List.mem_cons, List.not_mem_nil, List.length_cons, List.length_nil, List.cons_append, List.nil_append, Nat.reduceAdd, Nat.reduceMul, Nat.reduceLT, Nat.reduceEqDiff, Nat.reduceLeDiff, Int.reduceAdd, Int.reduceNeg, Int.reduceToNat, Int.cast_ofNat_Int, Int.reduceNatCast, Int.toNat_zero, Int.toNat_one, Int.reduceLE, Int.reduceLT, Int.reduceEq, Int.zero_add, Int.add_zero, or_false, false_or, or_true, true_or, and_true, true_and, and_false, false_and, reduceIte, not_true_eq_false, not_false_eq_true, forall_const, false_implies, true_implies, implies_true, ne_eq, reduceCtorEq, List.all_cons, List.all_nil, Bool.and_true, Bool.and_self, decide_eq_true_eq, decide_true, dX1_copyFrom_0, dX1_copyFrom_1, dX1_copyFrom_2, dX1_copyFrom_3, dX1_copyFrom_4, dX1_copyFrom_7, dX1_copyFrom_10, dX1_copyFrom_11, dX1_copyFrom_14, dX1_copyFrom_15, dX1_copyFrom_16, dX1_copyFrom_17, dX1_copyFrom_18, dX1_copyFrom_21, dX1_copyFrom_22, dX1_copyFrom_23, dX1_copyFrom_24, dX1_copyFrom_26, dX1_copyFrom_29, dX1_copyFrom_32, dX1_copyFrom_35, dX1_copyFrom_36, dX1_copyFrom_37, dX1_copyFrom_40, dX1_copyFrom_43, dX1_copyFrom_44, dX1_copyFrom_45, dX1_copyFrom_48, dX1_copyFrom_51, dX1_copyFrom_52, dX1_copyFrom_53, dX1_copyFrom_56, dX1_copyFrom_59, dX1_copyFrom_60, dX1_copyFrom_61, dX1_copyFrom_64, dX1_copyFrom_67, dX1_copyFrom_68, dX1_copyFrom_69, dX1_copyFrom_72, dX1_copyFrom_75, dX1_copyFrom_76, dX1_copyFrom_77, dX1_copyFrom_80, dX1_copyFrom_83, FX1_20, FX1_11, FX1_16, FX1_23, FX1_26, FX1_29, FX1_32, G_X1_copyFrom_35, hB, hO, eO, r2, r4, r5, rI_wI, nOB]
    repeat' (first | exact trivial | omega | (with_reducible assumption) | exact absurd trivial (by with_reducible assumption) | contradiction | apply And.intro | intro _)
  | succ m ih =>
    intro n hn ν hC
    obtain ⟨c1, c2, c3⟩ := hC
    have eO : ∀ j, rI ν O j = rI μ O j := c3.1 O (by omega)
    have eRO : ∀ j, rR ν (O + 1) j = rR μ (O + 1) j := c3.2 _
    have eRB : ∀ j, rR ν (B + 1) j = rR μ (B + 1) j := c3.2 _
    have hr := hP.1 n (by omega)
    have hr' := r1.1 n (by omega)
    obtain ⟨a1, a2⟩ := k7 _ hr.1 hr.2
    obtain ⟨b1, b2⟩ := k7' _ hr'.1 hr'.2
    have h := ih (n + 1) (by omega) (wC ν (rR μ (O + 1) n) 0 (rR μ (B + 1) n) 0 7) (by
      refine ⟨?_, ?_, ?_, ?_⟩
      · intro i c hi hc
        rw [rI_wC]
        by_cases ei : i = n
        · subst ei
          rw [if_pos ⟨rfl, by omega, by omega⟩, c3.1 _ (by omega), Nat.zero_add, Nat.sub_zero]
          exact r6 i c (by omega) hc
        · rw [if_neg (fun z => ei (hP.2 i n (by omega) (by omega) z.1))]
          exact c1 i c (by omega) hc
      · intro j; rw [rI_wC, if_neg (by omega)]; exact c2 j
      · intro k hk j; rw [rI_wC, if_neg (by omega)]; exact c3.1 k hk j
      · intro k j; exact c3.2 k j)
    rw [show ((n + 1 : Nat) : Int) = (n : Int) + 1 by omega] at h
    apply hV [2] 60
    simp only [InR, InL, inb, Int.toNat_natCast, wp1, wpc_z, wpc_s, stp_iconst, stp_bipush, stp_sipush, stp_lconst, stp_iload_n, stp_iload, stp_lload_n, stp_lload, stp_aload_n, stp_aload, stp_istore_n, stp_istore, stp_lstore_n, stp_lstore, stp_astore_n, stp_astore, stp_iinc, stp_iadd, stp_isub, stp_imul, stp_ineg, stp_idiv, stp_irem, stp_ladd, stp_lmul, stp_ldiv, stp_lrem, stp_ishl, stp_ishr, stp_iushr, stp_iand, stp_ior, stp_i2l, stp_i2b, stp_i2s, stp_lcmp, stp_dup, stp_dup2, stp_pop, stp_ifCond, stp_if_icmp, stp_goto, stp_tableswitch, stp_lookupswitch, stp_ldc, stp_ldc_w, stp_ldc2_w, stp_getstatic, stp_getfield, stp_putfield, stp_iaload, stp_baload, stp_iastore, stp_bastore, stp_aaload, stp_aastore, stp_invokevirtual, stp_invokestatic, stp_ireturn, stp_lreturn, stp_return_, lg, lset, okl, spl, wd, c1, cnd, tg, swT, swL, f4_0, f4_1, f4_2, f4_3, f2_0, f2_1, List.mem_cons, List.not_mem_nil, List.length_cons, List.length_nil, List.cons_append, List.nil_append, Nat.reduceAdd, Nat.reduceMul, Nat.reduceLT, Nat.reduceEqDiff, Nat.reduceLeDiff, Int.reduceAdd, Int.reduceNeg, Int.reduceToNat, Int.cast_ofNat_Int, Int.reduceNatCast, Int.toNat_zero, Int.toNat_one, Int.reduceLE, Int.reduceLT, Int.reduceEq, Int.zero_add, Int.add_zero, or_false, false_or, or_true, true_or, and_true, true_and, and_false, false_and, reduceIte, not_true_eq_false, not_false_eq_true, forall_const, false_implies, true_implies, implies_true, ne_eq, reduceCtorEq, List.all_cons, List.all_nil, Bool.and_true, Bool.and_self, decide_eq_true_eq, decide_true, dX1_copyFrom_0, dX1_copyFrom_1, dX1_copyFrom_2, dX1_copyFrom_3, dX1_copyFrom_4, dX1_copyFrom_7, dX1_copyFrom_10, dX1_copyFrom_11, dX1_copyFrom_14, dX1_copyFrom_15, dX1_copyFrom_16, dX1_copyFrom_17, dX1_copyFrom_18, dX1_copyFrom_21, dX1_copyFrom_22, dX1_copyFrom_23, dX1_copyFrom_24, dX1_copyFrom_26, dX1_copyFrom_29, dX1_copyFrom_32, dX1_copyFrom_35, dX1_copyFrom_36, dX1_copyFrom_37, dX1_copyFrom_40, dX1_copyFrom_43, dX1_copyFrom_44, dX1_copyFrom_45, dX1_copyFrom_48, dX1_copyFrom_51, dX1_copyFrom_52, dX1_copyFrom_53, dX1_copyFrom_56, dX1_copyFrom_59, dX1_copyFrom_60, dX1_copyFrom_61, dX1_copyFrom_64, dX1_copyFrom_67, dX1_copyFrom_68, dX1_copyFrom_69, dX1_copyFrom_72, dX1_copyFrom_75, dX1_copyFrom_76, dX1_copyFrom_77, dX1_copyFrom_80, dX1_copyFrom_83, FX1_20, FX1_11, FX1_16, FX1_23, FX1_26, FX1_29, FX1_32, G_X1_copyFrom_35, hB, hO, eO, r2, k12, l5, elr k12, k12', l5', elr k12', eRO, eRB, a1, a2, b1, b2, T_copy]
    repeat' (first | exact trivial | omega | (with_reducible assumption) | exact absurd trivial (by with_reducible assumption) | contradiction | apply And.intro | intro _)
def T1_copyFrom : TT := fun a μ K => match a with
  | [.inr (.inr B), .inr (.inr O)] => kd B = 1 ∧ (kd O = 1 ∧ B ≠ O ∧ RP μ B ∧ ∃ f, RG μ O f ∧ (0 ≤ f 35 ∧ f 35 ≤ 5) ∧ ∀ ν, RG ν B f ∧ rI ν B 5 = rI μ O 5 ∧ rI ν B 6 = rI μ O 6 ∧ FR B μ ν → K [] ν)
  | _ => False
theorem rec_X1_copyFrom : ∀ a μ K, T1_copyFrom a μ K → ∃ k r, a = .inr (.inr k) :: r ∧ kd k = 1 := by
  intro a μ K h
  unfold T1_copyFrom at h
  split at h
  · exact ⟨_, _, rfl, h.1⟩
  · exact h.elim
theorem gk_X1_copyFrom (l : Launch) : ∀ i n b T, G_X1_copyFrom i = some (n, b, T) → CallOK l 1 RX1 i n b T := by
  intro i n b T h
  have hm : (i, n, b, T) ∈ GL_X1_copyFrom := lk_mem h
  simp only [GL_X1_copyFrom, List.mem_cons, List.not_mem_nil, or_false, Prod.mk.injEq] at hm
  rcases hm with ⟨rfl, rfl, rfl, rfl⟩
  · exact CallOK.copy (d := 1) (own := RX1) (i := 35) (by decide) (mg 320 (by decide +kernel) (by decide +kernel)) (mg 322 (by decide +kernel) (by decide +kernel)) (mg 321 (by decide +kernel) (by decide +kernel)) (mg 12 (by decide +kernel) (by decide +kernel))
set_option maxRecDepth 20000 in
set_option maxHeartbeats 4000000 in
theorem body_X1_copyFrom (B : Nat) (O : Nat) (μ : Mem) (K : List AV → Mem → Prop) (V : Nat → List (Option AV) → List AV → Mem → Prop) (hV : Clos FX1 CX1 G_X1_copyFrom 0 K cX1_copyFrom V) (hT : kd B = 1 ∧ (kd O = 1 ∧ B ≠ O ∧ RP μ B ∧ ∃ f, RG μ O f ∧ (0 ≤ f 35 ∧ f 35 ≤ 5) ∧ ∀ ν, RG ν B f ∧ rI ν B 5 = rI μ O 5 ∧ rI ν B 6 = rI μ O 6 ∧ FR B μ ν → K [] ν)) : V 0 [some (.inr (.inr B)), some (.inr (.inr O)), none] [] μ := by
  obtain ⟨hB, hO, hne, hP, f, hR, h35, hK⟩ := hT
  have hap := rings_apart B (kd_lt hB (by omega) (by omega)) O (kd_lt hO (by omega) (by omega)) hB hO hne
  apply hV [2] 40
  simp only [InR, InL, inb, Int.toNat_natCast, wp1, wpc_z, wpc_s, stp_iconst, stp_bipush, stp_sipush, stp_lconst, stp_iload_n, stp_iload, stp_lload_n, stp_lload, stp_aload_n, stp_aload, stp_istore_n, stp_istore, stp_lstore_n, stp_lstore, stp_astore_n, stp_astore, stp_iinc, stp_iadd, stp_isub, stp_imul, stp_ineg, stp_idiv, stp_irem, stp_ladd, stp_lmul, stp_ldiv, stp_lrem, stp_ishl, stp_ishr, stp_iushr, stp_iand, stp_ior, stp_i2l, stp_i2b, stp_i2s, stp_lcmp, stp_dup, stp_dup2, stp_pop, stp_ifCond, stp_if_icmp, stp_goto, stp_tableswitch, stp_lookupswitch, stp_ldc, stp_ldc_w, stp_ldc2_w, stp_getstatic, stp_getfield, stp_putfield, stp_iaload, stp_baload, stp_iastore, stp_bastore, stp_aaload, stp_aastore, stp_invokevirtual, stp_invokestatic, stp_ireturn, stp_lreturn, stp_return_, lg, lset, okl, spl, wd, c1, cnd, tg, swT, swL, f4_0, f4_1, f4_2, f4_3, f2_0, f2_1, List.mem_cons, List.not_mem_nil, List.length_cons, List.length_nil, List.cons_append, List.nil_append, Nat.reduceAdd, Nat.reduceMul, Nat.reduceLT, Nat.reduceEqDiff, Nat.reduceLeDiff, Int.reduceAdd, Int.reduceNeg, Int.reduceToNat, Int.cast_ofNat_Int, Int.reduceNatCast, Int.toNat_zero, Int.toNat_one, Int.reduceLE, Int.reduceLT, Int.reduceEq, Int.zero_add, Int.add_zero, or_false, false_or, or_true, true_or, and_true, true_and, and_false, false_and, reduceIte, not_true_eq_false, not_false_eq_true, forall_const, false_implies, true_implies, implies_true, ne_eq, reduceCtorEq, List.all_cons, List.all_nil, Bool.and_true, Bool.and_self, decide_eq_true_eq, decide_true, dX1_copyFrom_0, dX1_copyFrom_1, dX1_copyFrom_2, dX1_copyFrom_3, dX1_copyFrom_4, dX1_copyFrom_7, dX1_copyFrom_10, dX1_copyFrom_11, dX1_copyFrom_14, dX1_copyFrom_15, dX1_copyFrom_16, dX1_copyFrom_17, dX1_copyFrom_18, dX1_copyFrom_21, dX1_copyFrom_22, dX1_copyFrom_23, dX1_copyFrom_24, dX1_copyFrom_26, dX1_copyFrom_29, dX1_copyFrom_32, dX1_copyFrom_35, dX1_copyFrom_36, dX1_copyFrom_37, dX1_copyFrom_40, dX1_copyFrom_43, dX1_copyFrom_44, dX1_copyFrom_45, dX1_copyFrom_48, dX1_copyFrom_51, dX1_copyFrom_52, dX1_copyFrom_53, dX1_copyFrom_56, dX1_copyFrom_59, dX1_copyFrom_60, dX1_copyFrom_61, dX1_copyFrom_64, dX1_copyFrom_67, dX1_copyFrom_68, dX1_copyFrom_69, dX1_copyFrom_72, dX1_copyFrom_75, dX1_copyFrom_76, dX1_copyFrom_77, dX1_copyFrom_80, dX1_copyFrom_83, FX1_20, FX1_11, FX1_16, FX1_23, FX1_26, FX1_29, FX1_32, G_X1_copyFrom_35, hB]
  exact lp_copyFrom V K hV μ B O hB hO hap f hR hP h35 hK (f 35).toNat 0 (by omega) μ ⟨fun i c hi _ => absurd hi (by omega), fun _ => rfl, FR.rf⟩
theorem good_X1_copyFrom (l : Launch) : Good l 1 yX1_copyFrom cX1_copyFrom 3 none T1_copyFrom := by
  refine Good.mk 0 (by decide) rfl (by simp [retOK]) FOK1 COK1 (gk_X1_copyFrom l) ?_ ?_
  · intro a μ K h
    unfold T1_copyFrom at h
    split at h
    · simp [entl]
    · exact h.elim
  · intro a μ K V hV h
    unfold T1_copyFrom at h
    split at h
    · exact body_X1_copyFrom _ _ μ K V hV h
    · exact h.elim

