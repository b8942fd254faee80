/-! the class: lines -/
def T4_takeWord : TT := fun a μ K => match a with
  | [.inr (.inr o), .inr (.inr R)] => o = 19 ∧ (R = 8 ∧ ∃ (b : Nat → Int) (len p : Nat) (D : Nat → Int) (hw : Bool), TP μ b len ∧ p ≤ len ∧ rI μ 19 4 = tkN b len p ∧ rI μ 19 6 = tkF b len p ∧ rI μ 19 2 = 0 ∧ RD μ D hw ∧ (0 ≤ D 35 ∧ D 35 ≤ 5) ∧ (0 ≤ D 36 ∧ D 36 ≤ 4) ∧ ∀ ν, (hw = true → LN μ ν 4 (tkF b len p) 0 D hw) → (hw = false → LN μ ν (nfC b len (tkN b len p) 0 4) (tkF b len (tkN b len p)) (n2 b len p) (wdD b len D (tkN b len p)) true) → K [] ν)
  | _ => False
theorem rec_X4_takeWord : ∀ a μ K, T4_takeWord a μ K → ∃ k r, a = .inr (.inr k) :: r ∧ kd k = 4 := by
  intro a μ K h
  unfold T4_takeWord at h
  split at h
  · exact ⟨_, _, rfl, by rw [h.1]; rfl⟩
  · exact h.elim
def GL_X4_takeWord : List (Nat × Nat × Bool × TT) := [(53, 3, false, T4_blame), (75, 3, false, T4_takeNumber)]
def G_X4_takeWord : Nat → Option (Nat × Bool × TT) := fun i => GL_X4_takeWord.lookup i
theorem G_X4_takeWord_53 : G_X4_takeWord 53 = some (3, false, T4_blame) := rfl
theorem G_X4_takeWord_75 : G_X4_takeWord 75 = some (3, false, T4_takeNumber) := rfl
theorem gk_X4_takeWord (l : Launch) : ∀ i n b T, G_X4_takeWord i = some (n, b, T) → CallOK l 3 RX4 i n b T := by
  intro i n b T h
  have hm : (i, n, b, T) ∈ GL_X4_takeWord := lk_mem h
  simp only [GL_X4_takeWord, List.mem_cons, List.not_mem_nil, or_false, Prod.mk.injEq] at hm
  rcases hm with ⟨rfl, rfl, rfl, rfl⟩ | ⟨rfl, rfl, rfl, rfl⟩
  · exact CallOK.V (d := 3) (own := RX4) (i := 53) (n := 2) (ci := 4) (good_X4_blame l) (by decide) (by decide) rfl (by decide) rec_X4_blame (mg 218 (by decide +kernel) (by decide +kernel)) (mg 220 (by decide +kernel) (by decide +kernel)) (mgs 2 (by decide +kernel) (by decide +kernel)) (mg 4 (by decide +kernel) (by decide +kernel)) (mg 221 (by decide +kernel) (by decide +kernel)) (by decide +kernel)
  · exact CallOK.V (d := 3) (own := RX4) (i := 75) (n := 2) (ci := 4) (good_X4_takeNumber l) (by decide) (by decide) rfl (by decide) rec_X4_takeNumber (mg 291 (by decide +kernel) (by decide +kernel)) (mg 293 (by decide +kernel) (by decide +kernel)) (mgs 7 (by decide +kernel) (by decide +kernel)) (mg 4 (by decide +kernel) (by decide +kernel)) (mg 294 (by decide +kernel) (by decide +kernel)) (by decide +kernel)
set_option maxRecDepth 20000 in
set_option maxHeartbeats 4000000 in
theorem body_X4_takeWord (o : Nat) (R : Nat) (μ : Mem) (K : List AV → Mem → Prop) (V : Nat → List (Option AV) → List AV → Mem → Prop) (hV : Clos FX4 CX4 G_X4_takeWord 0 K cX4_takeWord V) (hT : o = 19 ∧ (R = 8 ∧ ∃ (b : Nat → Int) (len p : Nat) (D : Nat → Int) (hw : Bool), TP μ b len ∧ p ≤ len ∧ rI μ 19 4 = tkN b len p ∧ rI μ 19 6 = tkF b len p ∧ rI μ 19 2 = 0 ∧ RD μ D hw ∧ (0 ≤ D 35 ∧ D 35 ≤ 5) ∧ (0 ≤ D 36 ∧ D 36 ≤ 4) ∧ ∀ ν, (hw = true → LN μ ν 4 (tkF b len p) 0 D hw) → (hw = false → LN μ ν (nfC b len (tkN b len p) 0 4) (tkF b len (tkN b len p)) (n2 b len p) (wdD b len D (tkN b len p)) true) → K [] ν)) : V 0 [some (.inr (.inr o)), some (.inr (.inr R))] [] μ := by
  obtain ⟨rfl, rfl, b, len, p, D, hw, ht, hp, h4, h6, h2, hR, h35, h36, hK⟩ := hT
  have hR' := hR
  obtain ⟨r0, r1, r2, r3, r4, r5, r6, r7⟩ := hR
  have hn := tkN_in ht.2.2.2 ht.2.1 hp
  have ht2 := ht.2.1
  cases hw with
  | true =>
    simp only [if_true] at r2
    have hk := hK (wI (wI μ 19 2 4) 19 3 (tkF b len p)) (fun _ => ⟨((TFr.w μ (by omega) 4).tr (TFr.w _ (by omega) _)).q, by simp [rI_wI], fun _ => by simp [rI_wI], fun z => absurd z (by omega), r0.of (fun _ => rfl), by simp only [rI_wI]; rw [if_neg (by omega), if_neg (by omega), r2]; exact ⟨by omega, by omega⟩, by simp only [rI_wI]; rw [if_neg (by omega), if_neg (by omega), r1]; exact ⟨by omega, by omega⟩⟩) (fun z => (by cases z))
    clear hK
    apply hV [] 20
    simp only [InR, InL, inb, Int.toNat_natCast, wp1, wpc_z, wpc_s, stp_iconst, stp_bipush, stp_sipush, stp_lconst, stp_iload_n, stp_iload, stp_lload_n, stp_lload, stp_aload_n, stp_aload, stp_istore_n, stp_istore, stp_lstore_n, stp_lstore, stp_astore_n, stp_astore, stp_iinc, stp_iadd, stp_isub, stp_imul, stp_ineg, stp_idiv, stp_irem, stp_ladd, stp_lmul, stp_ldiv, stp_lrem, stp_ishl, stp_ishr, stp_iushr, stp_iand, stp_ior, stp_i2l, stp_i2b, stp_i2s, stp_lcmp, stp_dup, stp_dup2, stp_pop, stp_ifCond, stp_if_icmp, stp_goto, stp_tableswitch, stp_lookupswitch, stp_ldc, stp_ldc_w, stp_ldc2_w, stp_getstatic, stp_getfield, stp_putfield, stp_iaload, stp_baload, stp_iastore, stp_bastore, stp_aaload, stp_aastore, stp_invokevirtual, stp_invokestatic, stp_ireturn, stp_lreturn, stp_return_, lg, lset, okl, spl, wd, c1, cnd, tg, swT, swL, f4_0, f4_1, f4_2, f4_3, f2_0, f2_1, List.mem_cons, List.not_mem_nil, List.length_cons, List.length_nil, List.cons_append, List.nil_append, Nat.reduceAdd, Nat.reduceMul, Nat.reduceLT, Nat.reduceEqDiff, Nat.reduceLeDiff, Int.reduceAdd, Int.reduceNeg, Int.reduceToNat, Int.cast_ofNat_Int, Int.reduceNatCast, Int.toNat_zero, Int.toNat_one, Int.reduceLE, Int.reduceLT, Int.reduceEq, Int.zero_add, Int.add_zero, or_false, false_or, or_true, true_or, and_true, true_and, and_false, false_and, reduceIte, not_true_eq_false, not_false_eq_true, forall_const, false_implies, true_implies, implies_true, ne_eq, reduceCtorEq, List.all_cons, List.all_nil, Bool.and_true, Bool.and_self, decide_eq_true_eq, decide_true, dX4_takeWord_0, dX4_takeWord_1, dX4_takeWord_4, dX4_takeWord_6, dX4_takeWord_9, dX4_takeWord_10, dX4_takeWord_11, dX4_takeWord_12, dX4_takeWord_15, dX4_takeWord_18, dX4_takeWord_21, dX4_takeWord_22, dX4_takeWord_23, dX4_takeWord_24, dX4_takeWord_25, dX4_takeWord_28, dX4_takeWord_31, FX4_40, FX4_61, G_X4_takeWord_53, G_X4_takeWord_75, kd_8, kd_19, r2, h6, T4_blame]
    repeat' (first | exact trivial | omega | (with_reducible assumption) | exact absurd trivial (by with_reducible assumption) | contradiction | apply And.intro | intro _)
  | false =>
    simp only [Bool.false_eq_true, if_false] at r2
    have main : ∃ (b_1 : Nat → Int) (len_1 p_1 : Nat), TP μ b_1 len_1 ∧ rI μ 19 4 = p_1 ∧ p_1 ≤ len_1 ∧ rI μ 19 2 = 0 ∧ ∀ ν, TA μ ν b_1 len_1 p_1 (nfC b_1 len_1 p_1 0 4) → (nfC b_1 len_1 p_1 0 4 = 0 → K [] (wI ν 8 2 (tkV b_1 len_1 p_1))) ∧ (nfC b_1 len_1 p_1 0 4 ≠ 0 → ∀ r : Int, 0 ≤ r → r ≤ 99 → K [] (wI ν 8 2 r)) := by
      refine ⟨b, len, tkN b len p, ht, h4, hn.2.1, h2, fun ν hν => ⟨fun z => ?_, fun z r hr1 hr2 => ?_⟩⟩
      · obtain ⟨a4, a6, a5, a2, a3, aF⟩ := hν
        obtain ⟨q0, q1, q2, q3, q4, q5, q6, q7⟩ := hR'.tf h35.2 aF
        refine hK _ (fun y => (by cases y)) (fun _ => ⟨aF.q.tr (TFq.w ν (by omega) 2 _), by rw [rI_wI, if_neg (by omega)]; exact a2, fun y => absurd z y, fun _ => ⟨⟨q0.of (fun _ => rfl), ?_, ?_, ?_, ?_, ?_, ?_, ?_⟩, by rw [rI_wI, if_neg (by omega)]; exact a4⟩, q0.of (fun _ => rfl), ?_, ?_⟩)
        · rw [rI_wI, if_neg (by omega), q1]; unfold wdD; rw [upF_n _ _ (by omega)]
        · rw [rI_wI, if_pos ⟨rfl, rfl⟩, if_pos rfl]; unfold wdD; rw [upF_s]
        · rw [rI_wI, if_neg (by omega)]; exact q3
        · rw [rI_wI, if_neg (by omega)]; exact q4
        · rw [rI_wI, if_neg (by omega)]; exact q5
        · rw [rI_wI, if_neg (by omega)]; exact q6
        · intro i t hi ht
          unfold wdD at hi ⊢
          rw [upF_n _ _ (by omega)] at hi
          have hr : 10 ≤ rR ν 9 i ∧ rR ν 9 i ≤ 14 := q0.1 i (by omega)
          rw [rR_wI, rI_wI, if_neg (by omega), upF_n _ _ (by omega)]
          exact q7 i t hi ht
        · obtain ⟨-, -, v1, v2⟩ := nf_ok z
          rw [rI_wI, if_pos ⟨rfl, rfl⟩]; exact ⟨by omega, by omega⟩
        · rw [rI_wI, if_neg (by omega), q1]; exact ⟨by omega, by omega⟩
      · obtain ⟨a4, a6, a5, a2, a3, aF⟩ := hν
        obtain ⟨q0, q1, -⟩ := hR'.tf h35.2 aF
        refine hK _ (fun y => (by cases y)) (fun _ => ⟨aF.q.tr (TFq.w ν (by omega) 2 _), by rw [rI_wI, if_neg (by omega)]; exact a2, fun y => by rw [rI_wI, if_neg (by omega)]; exact a3 y, fun y => absurd y z, q0.of (fun _ => rfl), ?_, ?_⟩)
        · rw [rI_wI, if_pos ⟨rfl, rfl⟩]; exact ⟨by omega, by omega⟩
        · rw [rI_wI, if_neg (by omega), q1]; exact ⟨by omega, by omega⟩
    clear hK
    apply hV [] 20
    simp only [InR, InL, inb, Int.toNat_natCast, wp1, wpc_z, wpc_s, stp_iconst, stp_bipush, stp_sipush, stp_lconst, stp_iload_n, stp_iload, stp_lload_n, stp_lload, stp_aload_n, stp_aload, stp_istore_n, stp_istore, stp_lstore_n, stp_lstore, stp_astore_n, stp_astore, stp_iinc, stp_iadd, stp_isub, stp_imul, stp_ineg, stp_idiv, stp_irem, stp_ladd, stp_lmul, stp_ldiv, stp_lrem, stp_ishl, stp_ishr, stp_iushr, stp_iand, stp_ior, stp_i2l, stp_i2b, stp_i2s, stp_lcmp, stp_dup, stp_dup2, stp_pop, stp_ifCond, stp_if_icmp, stp_goto, stp_tableswitch, stp_lookupswitch, stp_ldc, stp_ldc_w, stp_ldc2_w, stp_getstatic, stp_getfield, stp_putfield, stp_iaload, stp_baload, stp_iastore, stp_bastore, stp_aaload, stp_aastore, stp_invokevirtual, stp_invokestatic, stp_ireturn, stp_lreturn, stp_return_, lg, lset, okl, spl, wd, c1, cnd, tg, swT, swL, f4_0, f4_1, f4_2, f4_3, f2_0, f2_1, List.mem_cons, List.not_mem_nil, List.length_cons, List.length_nil, List.cons_append, List.nil_append, Nat.reduceAdd, Nat.reduceMul, Nat.reduceLT, Nat.reduceEqDiff, Nat.reduceLeDiff, Int.reduceAdd, Int.reduceNeg, Int.reduceToNat, Int.cast_ofNat_Int, Int.reduceNatCast, Int.toNat_zero, Int.toNat_one, Int.reduceLE, Int.reduceLT, Int.reduceEq, Int.zero_add, Int.add_zero, or_false, false_or, or_true, true_or, and_true, true_and, and_false, false_and, reduceIte, not_true_eq_false, not_false_eq_true, forall_const, false_implies, true_implies, implies_true, ne_eq, reduceCtorEq, List.all_cons, List.all_nil, Bool.and_true, Bool.and_self, decide_eq_true_eq, decide_true, dX4_takeWord_0, dX4_takeWord_1, dX4_takeWord_4, dX4_takeWord_6, dX4_takeWord_9, dX4_takeWord_10, dX4_takeWord_11, dX4_takeWord_12, dX4_takeWord_15, dX4_takeWord_18, dX4_takeWord_21, dX4_takeWord_22, dX4_takeWord_23, dX4_takeWord_24, dX4_takeWord_25, dX4_takeWord_28, dX4_takeWord_31, FX4_40, FX4_61, G_X4_takeWord_53, G_X4_takeWord_75, kd_8, kd_19, r2, T4_takeNumber]
    repeat' (first | exact trivial | omega | (with_reducible assumption) | exact absurd trivial (by with_reducible assumption) | contradiction | apply And.intro | intro _)
theorem good_X4_takeWord (l : Launch) : Good l 3 yX4_takeWord cX4_takeWord 2 none T4_takeWord := by
  refine Good.mk 0 (by decide) rfl (by simp [retOK]) FOK4 COK4 (gk_X4_takeWord l) ?_ ?_
  · intro a μ K h
    unfold T4_takeWord at h
    split at h
    · simp [entl]
    · exact h.elim
  · intro a μ K V hV h
    unfold T4_takeWord at h
    split at h
    · exact body_X4_takeWord _ _ μ K V hV h
    · exact h.elim

/-- the numbers alone -/
def nfL (b : Nat → Int) (len : Nat) : List (Int × Int) → Nat → Int × Int
  | [], _ => (0, 0)
  | q :: r, p => if nfC b len p q.1 q.2 ≠ 0 then (nfC b len p q.1 q.2, (tkF b len p : Int)) else nfL b len r (tkN b len p)
def SR (μ ν : Mem) (rr : Nat) (w : Nat → Int) (t : Nat) : Prop := TFq μ ν ∧ (∀ k, k ≠ 19 → k ≠ rr → ∀ j, rI ν k j = rI μ k j) ∧ ∀ j, j < t → rI ν rr j = w j
theorem SR.st {μ ν ρ : Mem} {rr : Nat} {w : Nat → Int} {t : Nat} (hr : 10 ≤ rr ∧ rr ≤ 14) (h : SR μ ν rr w t) (hF : TFr ν ρ) {v : Int} : SR μ (wI ρ rr t v) rr (fun j => if j = t then v else w j) (t + 1) := by
  obtain ⟨h1, h2, h3⟩ := h
  refine ⟨(h1.tr hF.q).tr (TFq.w ρ (by omega) t v), fun k a b j => by rw [rI_wI, if_neg (fun z => b z.1), hF.2.1 k a]; exact h2 k a b j, fun j hj => ?_⟩
  rw [rI_wI]
  show _ = if j = t then v else w j
  by_cases e : j = t
  · rw [if_pos ⟨rfl, e⟩, if_pos e]
  · rw [if_neg (fun z => e z.2), if_neg e, hF.2.1 rr (by omega)]
    exact h3 j (by omega)
theorem stv_n : ∀ t : Nat, t < 5 → (0 ≤ stv 100 t ∧ stv 100 t ≤ 1) ∧ (3 ≤ stv 101 t ∧ stv 101 t ≤ 99) := by decide +kernel
def GL_X4_takeStation : List (Nat × Nat × Bool × TT) := [(53, 3, false, T4_blame), (75, 3, false, T4_takeNumber)]
def G_X4_takeStation : Nat → Option (Nat × Bool × TT) := fun i => GL_X4_takeStation.lookup i
theorem G_X4_takeStation_53 : G_X4_takeStation 53 = some (3, false, T4_blame) := rfl
theorem G_X4_takeStation_75 : G_X4_takeStation 75 = some (3, false, T4_takeNumber) := rfl

set_option maxRecDepth 20000 in
set_option maxHeartbeats 4000000 in
theorem lp_tsx (V : Nat → List (Option AV) → List AV → Mem → Prop) (K : List AV → Mem → Prop) (hV : Clos FX4 CX4 G_X4_takeStation 0 K cX4_takeStation V) (ν : Mem) (k t : Int) (ht : 1 ≤ t ∧ t ≤ 5) (rr : Nat) (hr : 10 ≤ rr ∧ rr ≤ 14) (hi : InR (rI ν 19 2)) (hx : rI ν 19 2 ≠ 0 ∨ t = 5) (hK : K [] (wI (wI (wI ν rr 5 0) rr 6 0) 8 1 (rI ν 8 1 + 1))) : V 35 [some (.inr (.inr 19)), some (.inr (.inr 8)), some (.inl k), some (.inr (.inr rr)), some (.inl t)] [] ν := by
  simp only [InR] at hi
  obtain ⟨k12, l5, k7⟩ := ringk kd_8
  obtain ⟨c1, c2⟩ := k7 rr (by omega) (by omega)
  have n8 : ¬ 8 = rr := by omega
  apply hV [] 40
  simp only [InR, InL, inb, Int.toNat_natCast, wp1, wpc_z, wpc_s, stp_iconst, stp_bipush, stp_sipush, stp_lconst, stp_iload_n, stp_iload, stp_lload_n, stp_lload, stp_aload_n, stp_aload, stp_istore_n, stp_istore, stp_lstore_n, stp_lstore, stp_astore_n, stp_astore, stp_iinc, stp_iadd, stp_isub, stp_imul, stp_ineg, stp_idiv, stp_irem, stp_ladd, stp_lmul, stp_ldiv, stp_lrem, stp_ishl, stp_ishr, stp_iushr, stp_iand, stp_ior, stp_i2l, stp_i2b, stp_i2s, stp_lcmp, stp_dup, stp_dup2, stp_pop, stp_ifCond, stp_if_icmp, stp_goto, stp_tableswitch, stp_lookupswitch, stp_ldc, stp_ldc_w, stp_ldc2_w, stp_getstatic, stp_getfield, stp_putfield, stp_iaload, stp_baload, stp_iastore, stp_bastore, stp_aaload, stp_aastore, stp_invokevirtual, stp_invokestatic, stp_ireturn, stp_lreturn, stp_return_, lg, lset, okl, spl, wd, c1, cnd, tg, swT, swL, f4_0, f4_1, f4_2, f4_3, f2_0, f2_1, List.mem_cons, List.not_mem_nil, List.length_cons, List.length_nil, List.cons_append, List.nil_append, Nat.reduceAdd, Nat.reduceMul, Nat.reduceLT, Nat.reduceEqDiff, Nat.reduceLeDiff, Int.reduceAdd, Int.reduceNeg, Int.reduceToNat, Int.cast_ofNat_Int, Int.reduceNatCast, Int.toNat_zero, Int.toNat_one, Int.reduceLE, Int.reduceLT, Int.reduceEq, Int.zero_add, Int.add_zero, or_false, false_or, or_true, true_or, and_true, true_and, and_false, false_and, reduceIte, not_true_eq_false, not_false_eq_true, forall_const, false_implies, true_implies, implies_true, ne_eq, reduceCtorEq, List.all_cons, List.all_nil, Bool.and_true, Bool.and_self, decide_eq_true_eq, decide_true, dX4_takeStation_0, dX4_takeStation_1, dX4_takeStation_4, dX4_takeStation_5, dX4_takeStation_8, dX4_takeStation_9, dX4_takeStation_10, dX4_takeStation_11, dX4_takeStation_14, dX4_takeStation_17, dX4_takeStation_18, dX4_takeStation_19, dX4_takeStation_22, dX4_takeStation_23, dX4_takeStation_26, dX4_takeStation_27, dX4_takeStation_28, dX4_takeStation_29, dX4_takeStation_30, dX4_takeStation_31, dX4_takeStation_32, dX4_takeStation_33, dX4_takeStation_35, dX4_takeStation_37, dX4_takeStation_38, dX4_takeStation_41, dX4_takeStation_42, dX4_takeStation_45, dX4_takeStation_48, dX4_takeStation_49, dX4_takeStation_51, dX4_takeStation_52, dX4_takeStation_55, dX4_takeStation_57, dX4_takeStation_58, dX4_takeStation_61, dX4_takeStation_63, dX4_takeStation_64, dX4_takeStation_67, dX4_takeStation_68, dX4_takeStation_71, dX4_takeStation_74, dX4_takeStation_75, dX4_takeStation_76, dX4_takeStation_77, dX4_takeStation_78, dX4_takeStation_79, dX4_takeStation_81, dX4_takeStation_82, dX4_takeStation_83, dX4_takeStation_84, dX4_takeStation_85, dX4_takeStation_88, dX4_takeStation_89, dX4_takeStation_90, dX4_takeStation_93, FX4_43, FX4_61, FX4_79, FX4_20, CX4_83, CX4_87, G_X4_takeStation_53, G_X4_takeStation_75, kd_8, kd_19, c1, c2, rI_wI, n8]
  rcases hx with z | z
  · repeat' (first | exact trivial | omega | (with_reducible assumption) | exact absurd trivial (by with_reducible assumption) | contradiction | apply And.intro | intro _)
  · subst z
    repeat' (first | exact trivial | omega | (with_reducible assumption) | exact absurd trivial (by with_reducible assumption) | contradiction | apply And.intro | intro _)
set_option maxRecDepth 20000 in
set_option maxHeartbeats 4000000 in
theorem lp_ts1 (V : Nat → List (Option AV) → List AV → Mem → Prop) (K : List AV → Mem → Prop) (hV : Clos FX4 CX4 G_X4_takeStation 0 K cX4_takeStation V) (ν : Mem) (b : Nat → Int) (len q : Nat) (ht : TP ν b len) (hq : q ≤ len) (h4 : rI ν 19 4 = q) (h2 : rI ν 19 2 = 0) (k : Int) (t : Nat) (ht4 : 1 ≤ t ∧ t ≤ 4) (rr : Nat) (hr : 10 ≤ rr ∧ rr ≤ 14) (hK : ∀ ρ, TA ν ρ b len q (nfC b len q (stv 100 t) (stv 101 t)) → (nfC b len q (stv 100 t) (stv 101 t) = 0 → V 35 [some (.inr (.inr 19)), some (.inr (.inr 8)), some (.inl k), some (.inr (.inr rr)), some (.inl ((t : Int) + 1))] [] (wI ρ rr t (tkV b len q))) ∧ (nfC b len q (stv 100 t) (stv 101 t) ≠ 0 → ∀ r : Int, 0 ≤ r → r ≤ 99 → V 35 [some (.inr (.inr 19)), some (.inr (.inr 8)), some (.inl k), some (.inr (.inr rr)), some (.inl ((t : Int) + 1))] [] (wI ρ rr t r))) : V 35 [some (.inr (.inr 19)), some (.inr (.inr 8)), some (.inl k), some (.inr (.inr rr)), some (.inl (t : Int))] [] ν := by
  obtain ⟨k12, l5, k7⟩ := ringk kd_8
  obtain ⟨q1, q2⟩ := k7 rr (by omega) (by omega)
  have hs := stv_n t (by omega)
  have k67 : ∀ ρ v, V 35 [some (.inr (.inr 19)), some (.inr (.inr 8)), some (.inl k), some (.inr (.inr rr)), some (.inl ((t : Int) + 1))] [] (wI ρ rr t v) → V 67 [some (.inr (.inr 19)), some (.inr (.inr 8)), some (.inl k), some (.inr (.inr rr)), some (.inl (t : Int))] [.inl v, .inl (t : Int), .inr (.inr rr)] ρ := by
    intro ρ v h
    apply hV [35] 10
    simp only [InR, InL, inb, Int.toNat_natCast, wp1, wpc_z, wpc_s, stp_iconst, stp_bipush, stp_sipush, stp_lconst, stp_iload_n, stp_iload, stp_lload_n, stp_lload, stp_aload_n, stp_aload, stp_istore_n, stp_istore, stp_lstore_n, stp_lstore, stp_astore_n, stp_astore, stp_iinc, stp_iadd, stp_isub, stp_imul, stp_ineg, stp_idiv, stp_irem, stp_ladd, stp_lmul, stp_ldiv, stp_lrem, stp_ishl, stp_ishr, stp_iushr, stp_iand, stp_ior, stp_i2l, stp_i2b, stp_i2s, stp_lcmp, stp_dup, stp_dup2, stp_pop, stp_ifCond, stp_if_icmp, stp_goto, stp_tableswitch, stp_lookupswitch, stp_ldc, stp_ldc_w, stp_ldc2_w, stp_getstatic, stp_getfield, stp_putfield, stp_iaload, stp_baload, stp_iastore, stp_bastore, stp_aaload, stp_aastore, stp_invokevirtual, stp_invokestatic, stp_ireturn, stp_lreturn, stp_return_, lg, lset, okl, spl, wd, c1, cnd, tg, swT, swL, f4_0, f4_1, f4_2, f4_3, f2_0, f2_1, List.mem_cons, List.not_mem_nil, List.length_cons, List.length_nil, List.cons_append, List.nil_append, Nat.reduceAdd, Nat.reduceMul, Nat.reduceLT, Nat.reduceEqDiff, Nat.reduceLeDiff, Int.reduceAdd, Int.reduceNeg, Int.reduceToNat, Int.cast_ofNat_Int, Int.reduceNatCast, Int.toNat_zero, Int.toNat_one, Int.reduceLE, Int.reduceLT, Int.reduceEq, Int.zero_add, Int.add_zero, or_false, false_or, or_true, true_or, and_true, true_and, and_false, false_and, reduceIte, not_true_eq_false, not_false_eq_true, forall_const, false_implies, true_implies, implies_true, ne_eq, reduceCtorEq, List.all_cons, List.all_nil, Bool.and_true, Bool.and_self, decide_eq_true_eq, decide_true, dX4_takeStation_0, dX4_takeStation_1, dX4_takeStation_4, dX4_takeStation_5, dX4_takeStation_8, dX4_takeStation_9, dX4_takeStation_10, dX4_takeStation_11, dX4_takeStation_14, dX4_takeStation_17, dX4_takeStation_18, dX4_takeStation_19, dX4_takeStation_22, dX4_takeStation_23, dX4_takeStation_26, dX4_takeStation_27, dX4_takeStation_28, dX4_takeStation_29, dX4_takeStation_30, dX4_takeStation_31, dX4_takeStation_32, dX4_takeStation_33, dX4_takeStation_35, dX4_takeStation_37, dX4_takeStation_38, dX4_takeStation_41, dX4_takeStation_42, dX4_takeStation_45, dX4_takeStation_48, dX4_takeStation_49, dX4_takeStation_51, dX4_takeStation_52, dX4_takeStation_55, dX4_takeStation_57, dX4_takeStation_58, dX4_takeStation_61, dX4_takeStation_63, dX4_takeStation_64, dX4_takeStation_67, dX4_takeStation_68, dX4_takeStation_71, dX4_takeStation_74, dX4_takeStation_75, dX4_takeStation_76, dX4_takeStation_77, dX4_takeStation_78, dX4_takeStation_79, dX4_takeStation_81, dX4_takeStation_82, dX4_takeStation_83, dX4_takeStation_84, dX4_takeStation_85, dX4_takeStation_88, dX4_takeStation_89, dX4_takeStation_90, dX4_takeStation_93, FX4_43, FX4_61, FX4_79, FX4_20, CX4_83, CX4_87, G_X4_takeStation_53, G_X4_takeStation_75, q1, q2]
    repeat' (first | exact trivial | omega | (with_reducible assumption) | exact absurd trivial (by with_reducible assumption) | contradiction | apply And.intro | intro _)
  have main : ∃ (b_1 : Nat → Int) (len_1 p_1 : Nat), TP ν b_1 len_1 ∧ rI ν 19 4 = p_1 ∧ p_1 ≤ len_1 ∧ ∀ ρ, TA ν ρ b_1 len_1 p_1 (nfC b_1 len_1 p_1 (stv 100 t) (stv 101 t)) → (nfC b_1 len_1 p_1 (stv 100 t) (stv 101 t) = 0 → V 67 [some (.inr (.inr 19)), some (.inr (.inr 8)), some (.inl k), some (.inr (.inr rr)), some (.inl (t : Int))] [.inl (tkV b_1 len_1 p_1), .inl (t : Int), .inr (.inr rr)] ρ) ∧ (¬ nfC b_1 len_1 p_1 (stv 100 t) (stv 101 t) = 0 → ∀ r : Int, 0 ≤ r → r ≤ 99 → V 67 [some (.inr (.inr 19)), some (.inr (.inr 8)), some (.inl k), some (.inr (.inr rr)), some (.inl (t : Int))] [.inl r, .inl (t : Int), .inr (.inr rr)] ρ) := ⟨b, len, q, ht, h4, hq, fun ρ hρ => ⟨fun z => k67 _ _ ((hK ρ hρ).1 z), fun z r g1 g2 => k67 _ _ ((hK ρ hρ).2 z r g1 g2)⟩⟩
  clear hK k67
  apply hV [35, 67] 40
  simp only [InR, InL, inb, Int.toNat_natCast, wp1, wpc_z, wpc_s, stp_iconst, stp_bipush, stp_sipush, stp_lconst, stp_iload_n, stp_iload, stp_lload_n, stp_lload, stp_aload_n, stp_aload, stp_istore_n, stp_istore, stp_lstore_n, stp_lstore, stp_astore_n, stp_astore, stp_iinc, stp_iadd, stp_isub, stp_imul, stp_ineg, stp_idiv, stp_irem, stp_ladd, stp_lmul, stp_ldiv, stp_lrem, stp_ishl, stp_ishr, stp_iushr, stp_iand, stp_ior, stp_i2l, stp_i2b, stp_i2s, stp_lcmp, stp_dup, stp_dup2, stp_pop, stp_ifCond, stp_if_icmp, stp_goto, stp_tableswitch, stp_lookupswitch, stp_ldc, stp_ldc_w, stp_ldc2_w, stp_getstatic, stp_getfield, stp_putfield, stp_iaload, stp_baload, stp_iastore, stp_bastore, stp_aaload, stp_aastore, stp_invokevirtual, stp_invokestatic, stp_ireturn, stp_lreturn, stp_return_, lg, lset, okl, spl, wd, c1, cnd, tg, swT, swL, f4_0, f4_1, f4_2, f4_3, f2_0, f2_1, List.mem_cons, List.not_mem_nil, List.length_cons, List.length_nil, List.cons_append, List.nil_append, Nat.reduceAdd, Nat.reduceMul, Nat.reduceLT, Nat.reduceEqDiff, Nat.reduceLeDiff, Int.reduceAdd, Int.reduceNeg, Int.reduceToNat, Int.cast_ofNat_Int, Int.reduceNatCast, Int.toNat_zero, Int.toNat_one, Int.reduceLE, Int.reduceLT, Int.reduceEq, Int.zero_add, Int.add_zero, or_false, false_or, or_true, true_or, and_true, true_and, and_false, false_and, reduceIte, not_true_eq_false, not_false_eq_true, forall_const, false_implies, true_implies, implies_true, ne_eq, reduceCtorEq, List.all_cons, List.all_nil, Bool.and_true, Bool.and_self, decide_eq_true_eq, decide_true, dX4_takeStation_0, dX4_takeStation_1, dX4_takeStation_4, dX4_takeStation_5, dX4_takeStation_8, dX4_takeStation_9, dX4_takeStation_10, dX4_takeStation_11, dX4_takeStation_14, dX4_takeStation_17, dX4_takeStation_18, dX4_takeStation_19, dX4_takeStation_22, dX4_takeStation_23, dX4_takeStation_26, dX4_takeStation_27, dX4_takeStation_28, dX4_takeStation_29, dX4_takeStation_30, dX4_takeStation_31, dX4_takeStation_32, dX4_takeStation_33, dX4_takeStation_35, dX4_takeStation_37, dX4_takeStation_38, dX4_takeStation_41, dX4_takeStation_42, dX4_takeStation_45, dX4_takeStation_48, dX4_takeStation_49, dX4_takeStation_51, dX4_takeStation_52, dX4_takeStation_55, dX4_takeStation_57, dX4_takeStation_58, dX4_takeStation_61, dX4_takeStation_63, dX4_takeStation_64, dX4_takeStation_67, dX4_takeStation_68, dX4_takeStation_71, dX4_takeStation_74, dX4_takeStation_75, dX4_takeStation_76, dX4_takeStation_77, dX4_takeStation_78, dX4_takeStation_79, dX4_takeStation_81, dX4_takeStation_82, dX4_takeStation_83, dX4_takeStation_84, dX4_takeStation_85, dX4_takeStation_88, dX4_takeStation_89, dX4_takeStation_90, dX4_takeStation_93, FX4_43, FX4_61, FX4_79, FX4_20, CX4_83, CX4_87, G_X4_takeStation_53, G_X4_takeStation_75, kd_8, kd_19, kd_100, kd_101, h2, T4_takeNumber]
  repeat' (first | exact trivial | omega | (with_reducible assumption) | exact absurd trivial (by with_reducible assumption) | contradiction | apply And.intro | intro _)
def T4_takeStation : TT := fun a μ K => match a with
  | [.inr (.inr o), .inr (.inr R), .inl k] => o = 19 ∧ (R = 8 ∧ ∃ (b : Nat → Int) (len p : Nat) (D : Nat → Int) (hw : Bool), TP μ b len ∧ p ≤ len ∧ rI μ 19 4 = tkN b len p ∧ rI μ 19 6 = tkF b len p ∧ rI μ 19 2 = 0 ∧ RD μ D hw ∧ (0 ≤ D 35 ∧ D 35 ≤ 5) ∧ (hw = true → 0 ≤ D 36 ∧ D 36 ≤ 4) ∧ (0 ≤ k ∧ k ≤ 3) ∧ (∀ x, 7 * (D 35).toNat ≤ x → x < 35 → D x = 0) ∧ ∀ ν, (¬ D 35 < 5 → LN μ ν 5 (tkF b len p) 0 D hw) → (D 35 < 5 → LN μ ν (nfL b len bds (tkN b len p)).1 (nfL b len bds (tkN b len p)).2 (tkN b len (n2 b len (n2 b len p))) (stD b len D k (tkN b len p)) hw) → K [] ν)
  | _ => False
theorem rec_X4_takeStation : ∀ a μ K, T4_takeStation a μ K → ∃ k r, a = .inr (.inr k) :: r ∧ kd k = 4 := by
  intro a μ K h
  unfold T4_takeStation at h
  split at h
  · exact ⟨_, _, rfl, by rw [h.1]; rfl⟩
  · exact h.elim
theorem gk_X4_takeStation (l : Launch) : ∀ i n b T, G_X4_takeStation i = some (n, b, T) → CallOK l 3 RX4 i n b T := by
  intro i n b T h
  have hm : (i, n, b, T) ∈ GL_X4_takeStation := lk_mem h
  simp only [GL_X4_takeStation, List.mem_cons, List.not_mem_nil, or_false, Prod.mk.injEq] at hm
  rcases hm with ⟨rfl, rfl, rfl, rfl⟩ | ⟨rfl, rfl, rfl, rfl⟩
  · exact CallOK.V (d := 3) (own := RX4) (i := 53) (n := 2) (ci := 4) (good_X4_blame l) (by decide) (by decide) rfl (by decide) rec_X4_blame (mg 218 (by decide +kernel) (by decide +kernel)) (mg 220 (by decide +kernel) (by decide +kernel)) (mgs 2 (by decide +kernel) (by decide +kernel)) (mg 4 (by decide +kernel) (by decide +kernel)) (mg 221 (by decide +kernel) (by decide +kernel)) (by decide +kernel)
  · exact CallOK.V (d := 3) (own := RX4) (i := 75) (n := 2) (ci := 4) (good_X4_takeNumber l) (by decide) (by decide) rfl (by decide) rec_X4_takeNumber (mg 291 (by decide +kernel) (by decide +kernel)) (mg 293 (by decide +kernel) (by decide +kernel)) (mgs 7 (by decide +kernel) (by decide +kernel)) (mg 4 (by decide +kernel) (by decide +kernel)) (mg 294 (by decide +kernel) (by decide +kernel)) (by decide +kernel)
set_option maxRecDepth 20000 in
set_option maxHeartbeats 4000000 in
theorem body_X4_takeStation (o : Nat) (R : Nat) (k : Int) (μ : Mem) (K : List AV → Mem → Prop) (V : Nat → List (Option AV) → List AV → Mem → Prop) (hV : Clos FX4 CX4 G_X4_takeStation 0 K cX4_takeStation V) (hT : o = 19 ∧ (R = 8 ∧ ∃ (b : Nat → Int) (len p : Nat) (D : Nat → Int) (hw : Bool), TP μ b len ∧ p ≤ len ∧ rI μ 19 4 = tkN b len p ∧ rI μ 19 6 = tkF b len p ∧ rI μ 19 2 = 0 ∧ RD μ D hw ∧ (0 ≤ D 35 ∧ D 35 ≤ 5) ∧ (hw = true → 0 ≤ D 36 ∧ D 36 ≤ 4) ∧ (0 ≤ k ∧ k ≤ 3) ∧ (∀ x, 7 * (D 35).toNat ≤ x → x < 35 → D x = 0) ∧ ∀ ν, (¬ D 35 < 5 → LN μ ν 5 (tkF b len p) 0 D hw) → (D 35 < 5 → LN μ ν (nfL b len bds (tkN b len p)).1 (nfL b len bds (tkN b len p)).2 (tkN b len (n2 b len (n2 b len p))) (stD b len D k (tkN b len p)) hw) → K [] ν)) : V 0 [some (.inr (.inr o)), some (.inr (.inr R)), some (.inl k), none, none] [] μ := by
  obtain ⟨rfl, rfl, b, len, p, D, hw, ht, hp, h4, h6, h2, hR, h35, h36, hk, hz, hK⟩ := hT
  have hR' := hR
  obtain ⟨r0, r1, r2, r3, r4, r5, r6, r7⟩ := hR
  have hn := tkN_in ht.2.2.2 ht.2.1 hp
  have ht2 := ht.2.1
  have i2 : InR (rI μ 8 2) := by
    rw [r2]
    split
    · rename_i z; have := h36 z; exact ⟨by omega, by omega⟩
    · exact ⟨by omega, by omega⟩
  by_cases h5 : D 35 < 5
  · have hK := fun ν g => hK ν (fun z => absurd h5 z) (fun _ => g)
    obtain ⟨m, hm⟩ := Int.eq_ofNat_of_zero_le h35.1
    have em : (D 35).toNat = m := by omega
    have hrr : 10 ≤ rR μ 9 m ∧ rR μ 9 m ≤ 14 := r0.1 m (by omega)
    generalize hrre : rR μ 9 m = rr at hrr
    have fin : ∀ (ν : Mem) (w : Nat → Int) (t : Nat), 1 ≤ t → t ≤ 5 → SR μ ν rr w t → ∀ e pl : Int, rI ν 19 2 = e → (0 ≤ e ∧ e ≤ 3) → (e = 0 → t = 5 ∧ rI ν 19 4 = tkN b len (n2 b len (n2 b len p)) ∧ ∀ j, j < 5 → w j = stD b len D k (tkN b len p) (7 * m + j)) → (e ≠ 0 → rI ν 19 3 = pl) → (nfL b len bds (tkN b len p)) = (e, pl) → V 35 [some (.inr (.inr 19)), some (.inr (.inr 8)), some (.inl k), some (.inr (.inr rr)), some (.inl (t : Int))] [] ν := by
      intro ν w t t1 t5 hS e pl he he2 h0 hpl hnf
      obtain ⟨s1, s2, s3⟩ := hS
      have e8 : ∀ j, rI ν 8 j = rI μ 8 j := s2 8 (by omega) (by omega)
      refine lp_tsx V K hV ν k t (by omega) rr hrr (by rw [he]; exact ⟨by omega, by omega⟩) (by by_cases z : e = 0
                                                                                                · exact Or.inr (by have := (h0 z).1; omega)
                                                                                                · exact Or.inl (by rw [he]; exact z)) ?_
      refine hK _ ⟨((s1.tr (TFq.w ν (by omega) 5 0)).tr (TFq.w _ (by omega) 6 0)).tr (TFq.w _ (by omega) 1 _), ?_, ?_, ?_, ?_, ?_, ?_⟩
      · rw [rI_wI, if_neg (by omega), rI_wI, if_neg (by omega), rI_wI, if_neg (by omega), he, hnf]
      · intro z
        rw [hnf] at z ⊢
        rw [rI_wI, if_neg (by omega), rI_wI, if_neg (by omega), rI_wI, if_neg (by omega)]
        exact hpl z
      · intro z
        rw [hnf] at z
        obtain ⟨g1, g2, g3⟩ := h0 z
        have e35 := stD_35 (b := b) (len := len) D k (tkN b len p)
        refine ⟨⟨(r0.of (s1.2.2 _)).of (fun _ => rfl), ?_, ?_, ?_, ?_, ?_, ?_, ?_⟩, by rw [rI_wI, if_neg (by omega), rI_wI, if_neg (by omega), rI_wI, if_neg (by omega)]; exact g2⟩
        · rw [rI_wI, if_pos ⟨rfl, rfl⟩, e8, r1, e35]
        · rw [rI_wI, if_neg (by omega), rI_wI, if_neg (by omega), rI_wI, if_neg (by omega), e8, r2, stD_o _ _ _ (by omega) (by omega)]
        · rw [rI_wI, if_neg (by omega), rI_wI, if_neg (by omega), rI_wI, if_neg (by omega), e8, r3]
        · rw [rI_wI, if_neg (by omega), rI_wI, if_neg (by omega), rI_wI, if_neg (by omega), e8, r4]
        · rw [rI_wI, if_neg (by omega), rI_wI, if_neg (by omega), rI_wI, if_neg (by omega), e8, r5]
        · rw [rI_wI, if_neg (by omega), rI_wI, if_neg (by omega), rI_wI, if_neg (by omega), e8, r6]
        · intro i c hi hc
          rw [e35] at hi
          rw [rR_wI, rR_wI, rR_wI, s1.2.2]
          have hri : 10 ≤ rR μ 9 i ∧ rR μ 9 i ≤ 14 := r0.1 i (by omega)
          rw [rI_wI, if_neg (by omega), rI_wI, rI_wI]
          by_cases ei : i = m
          · subst ei
            rw [hrre]
            by_cases c6 : c = 6
            · subst c6
              rw [if_pos ⟨rfl, rfl⟩, stD_o _ _ _ (by omega) (by omega), hz _ (by omega) (by omega)]
            · rw [if_neg (fun z => c6 z.2)]
              by_cases c5 : c = 5
              · subst c5
                rw [if_pos ⟨rfl, rfl⟩, stD_o _ _ _ (by omega) (by omega), hz _ (by omega) (by omega)]
              · rw [if_neg (fun z => c5 z.2), s3 c (by omega), g3 c (by omega)]
          · have hne : rR μ 9 i ≠ rr := fun z => ei (r0.2 i m (by omega) (by omega) (by rw [hrre]; exact z))
            rw [if_neg (fun z => hne z.1), if_neg (fun z => hne z.1), s2 _ (by omega) hne, stD_o _ _ _ (by omega) (by omega)]
            exact r7 i c (by omega) hc
      · exact (r0.of (s1.2.2 _)).of (fun _ => rfl)
      · rw [rI_wI, if_neg (by omega), rI_wI, if_neg (by omega), rI_wI, if_neg (by omega), e8]; exact i2
      · rw [rI_wI, if_pos ⟨rfl, rfl⟩, e8, r1]; exact ⟨by omega, by omega⟩
    obtain ⟨d0, d1, d2, d3, d4⟩ := stD_r (b := b) (len := len) h5 k (tkN b len p)
    rw [em] at d0 d1 d2 d3 d4
    have step : ∀ (t : Nat), 1 ≤ t → t ≤ 4 → ∀ (ν : Mem) (w : Nat → Int) (q : Nat), SR μ ν rr w t → q ≤ len → rI ν 19 4 = q → rI ν 19 2 = 0 → nfL b len bds (tkN b len p) = nfL b len ((stv 100 t, stv 101 t) :: bds.drop t) q → (∀ ρ, SR μ ρ rr (fun j => if j = t then tkV b len q else w j) (t + 1) → rI ρ 19 4 = tkN b len q → rI ρ 19 2 = 0 → nfL b len bds (tkN b len p) = nfL b len (bds.drop t) (tkN b len q) → V 35 [some (.inr (.inr 19)), some (.inr (.inr 8)), some (.inl k), some (.inr (.inr rr)), some (.inl ((t : Int) + 1))] [] ρ) → V 35 [some (.inr (.inr 19)), some (.inr (.inr 8)), some (.inl k), some (.inr (.inr rr)), some (.inl (t : Int))] [] ν := by
      intro t t1 t4 ν w q hS hq hν4 hν2 hnf hgo
      refine lp_ts1 V K hV ν b len q (hS.1.tp ht) hq hν4 hν2 k t ⟨t1, t4⟩ rr hrr (fun ρ hρ => ⟨fun z => ?_, fun z r g1 g2 => ?_⟩)
      · obtain ⟨a4, a6, a5, a2, a3, aF⟩ := hρ
        refine hgo _ (hS.st hrr aF) (by rw [rI_wI, if_neg (by omega)]; exact a4) (by rw [rI_wI, if_neg (by omega), a2]; exact z) ?_
        rw [hnf]
        simp only [nfL]
        rw [if_neg (fun y => y z)]
      · obtain ⟨a4, a6, a5, a2, a3, aF⟩ := hρ
        have hf := nf_in (b := b) (len := len) q (stv 100 t) (stv 101 t)
        have := fin (wI ρ rr t r) _ (t + 1) (by omega) (by omega) (hS.st hrr aF (v := r)) (nfC b len q (stv 100 t) (stv 101 t)) (tkF b len q) (by rw [rI_wI, if_neg (by omega)]; exact a2) hf (fun y => absurd y z) (fun _ => by rw [rI_wI, if_neg (by omega)]; exact a3 z) (by
          rw [hnf]
          simp only [nfL]
          rw [if_pos z])
        rw [show ((t + 1 : Nat) : Int) = (t : Int) + 1 by omega] at this
        exact this
    have hb := ht.2.2.2
    have q1 : tkN b len p ≤ len := hn.2.1
    have q2 := (tkN_in hb ht2 q1).2.1
    have q3 := (tkN_in hb ht2 q2).2.1
    have q4 := (tkN_in hb ht2 q3).2.1
    have s0 : SR μ (wI μ rr 0 k) rr (fun _ => k) 1 := ⟨TFq.w μ (by omega) 0 k, fun a _ h j => by rw [rI_wI, if_neg (fun z => h z.1)], fun j hj => by rw [rI_wI, if_pos ⟨rfl, by omega⟩]⟩
    have all := step 1 (by omega) (by omega) (wI μ rr 0 k) _ (tkN b len p) s0 q1 (by rw [rI_wI, if_neg (by omega)]; exact h4) (by rw [rI_wI, if_neg (by omega)]; exact h2) rfl (fun ρ1 g1 g2 g3 g4 => step 2 (by omega) (by omega) ρ1 _ _ g1 q2 g2 g3 g4 (fun ρ2 g1 g2 g3 g4 => step 3 (by omega) (by omega) ρ2 _ _ g1 q3 g2 g3 g4 (fun ρ3 g1 g2 g3 g4 => step 4 (by omega) (by omega) ρ3 _ _ g1 q4 g2 g3 g4 (fun ρ4 g1 g2 g3 g4 => fin ρ4 _ 5 (by omega) (by omega) g1 0 0 g3 (by omega) (fun _ => ⟨rfl, g2, fun j hj => by
      rcases (show j = 0 ∨ j = 1 ∨ j = 2 ∨ j = 3 ∨ j = 4 by omega) with rfl | rfl | rfl | rfl | rfl
      · simp; exact d0.symm
      · simp; exact d1.symm
      · simp; exact d2.symm
      · simp; exact d3.symm
      · simp; exact d4.symm⟩) (fun z => absurd rfl z) g4))))
    clear step fin hK
    obtain ⟨k12, l5, k7⟩ := ringk kd_8
    obtain ⟨c1, c2⟩ := k7 rr (by omega) (by omega)
    have ee : el μ 9 m = rr := by rw [← hrre]; exact elr (B := 8) k12 m
    apply hV [35] 30
    simp only [InR, InL, inb, Int.toNat_natCast, wp1, wpc_z, wpc_s, stp_iconst, stp_bipush, stp_sipush, stp_lconst, stp_iload_n, stp_iload, stp_lload_n, stp_lload, stp_aload_n, stp_aload, stp_istore_n, stp_istore, stp_lstore_n, stp_lstore, stp_astore_n, stp_astore, stp_iinc, stp_iadd, stp_isub, stp_imul, stp_ineg, stp_idiv, stp_irem, stp_ladd, stp_lmul, stp_ldiv, stp_lrem, stp_ishl, stp_ishr, stp_iushr, stp_iand, stp_ior, stp_i2l, stp_i2b, stp_i2s, stp_lcmp, stp_dup, stp_dup2, stp_pop, stp_ifCond, stp_if_icmp, stp_goto, stp_tableswitch, stp_lookupswitch, stp_ldc, stp_ldc_w, stp_ldc2_w, stp_getstatic, stp_getfield, stp_putfield, stp_iaload, stp_baload, stp_iastore, stp_bastore, stp_aaload, stp_aastore, stp_invokevirtual, stp_invokestatic, stp_ireturn, stp_lreturn, stp_return_, lg, lset, okl, spl, wd, c1, cnd, tg, swT, swL, f4_0, f4_1, f4_2, f4_3, f2_0, f2_1, List.mem_cons, List.not_mem_nil, List.length_cons, List.length_nil, List.cons_append, List.nil_append, Nat.reduceAdd, Nat.reduceMul, Nat.reduceLT, Nat.reduceEqDiff, Nat.reduceLeDiff, Int.reduceAdd, Int.reduceNeg, Int.reduceToNat, Int.cast_ofNat_Int, Int.reduceNatCast, Int.toNat_zero, Int.toNat_one, Int.reduceLE, Int.reduceLT, Int.reduceEq, Int.zero_add, Int.add_zero, or_false, false_or, or_true, true_or, and_true, true_and, and_false, false_and, reduceIte, not_true_eq_false, not_false_eq_true, forall_const, false_implies, true_implies, implies_true, ne_eq, reduceCtorEq, List.all_cons, List.all_nil, Bool.and_true, Bool.and_self, decide_eq_true_eq, decide_true, dX4_takeStation_0, dX4_takeStation_1, dX4_takeStation_4, dX4_takeStation_5, dX4_takeStation_8, dX4_takeStation_9, dX4_takeStation_10, dX4_takeStation_11, dX4_takeStation_14, dX4_takeStation_17, dX4_takeStation_18, dX4_takeStation_19, dX4_takeStation_22, dX4_takeStation_23, dX4_takeStation_26, dX4_takeStation_27, dX4_takeStation_28, dX4_takeStation_29, dX4_takeStation_30, dX4_takeStation_31, dX4_takeStation_32, dX4_takeStation_33, dX4_takeStation_35, dX4_takeStation_37, dX4_takeStation_38, dX4_takeStation_41, dX4_takeStation_42, dX4_takeStation_45, dX4_takeStation_48, dX4_takeStation_49, dX4_takeStation_51, dX4_takeStation_52, dX4_takeStation_55, dX4_takeStation_57, dX4_takeStation_58, dX4_takeStation_61, dX4_takeStation_63, dX4_takeStation_64, dX4_takeStation_67, dX4_takeStation_68, dX4_takeStation_71, dX4_takeStation_74, dX4_takeStation_75, dX4_takeStation_76, dX4_takeStation_77, dX4_takeStation_78, dX4_takeStation_79, dX4_takeStation_81, dX4_takeStation_82, dX4_takeStation_83, dX4_takeStation_84, dX4_takeStation_85, dX4_takeStation_88, dX4_takeStation_89, dX4_takeStation_90, dX4_takeStation_93, FX4_43, FX4_61, FX4_79, FX4_20, CX4_83, CX4_87, G_X4_takeStation_53, G_X4_takeStation_75, kd_8, kd_9, ln_9, kd_19, r1, hm, ee, c1, c2]
    repeat' (first | exact trivial | omega | (with_reducible assumption) | exact absurd trivial (by with_reducible assumption) | contradiction | apply And.intro | intro _)
  · have hk' := hK (wI (wI μ 19 2 5) 19 3 (tkF b len p)) (fun _ => ⟨((TFr.w μ (by omega) 5).tr (TFr.w _ (by omega) _)).q, by simp [rI_wI], fun _ => by simp [rI_wI], fun z => absurd z (by omega), r0.of (fun _ => rfl), by simp only [rI_wI]; rw [if_neg (by omega), if_neg (by omega)]; exact i2, by simp only [rI_wI]; rw [if_neg (by omega), if_neg (by omega), r1]; exact ⟨by omega, by omega⟩⟩) (fun z => absurd z h5)
    clear hK
    apply hV [18] 20
    simp only [InR, InL, inb, Int.toNat_natCast, wp1, wpc_z, wpc_s, stp_iconst, stp_bipush, stp_sipush, stp_lconst, stp_iload_n, stp_iload, stp_lload_n, stp_lload, stp_aload_n, stp_aload, stp_istore_n, stp_istore, stp_lstore_n, stp_lstore, stp_astore_n, stp_astore, stp_iinc, stp_iadd, stp_isub, stp_imul, stp_ineg, stp_idiv, stp_irem, stp_ladd, stp_lmul, stp_ldiv, stp_lrem, stp_ishl, stp_ishr, stp_iushr, stp_iand, stp_ior, stp_i2l, stp_i2b, stp_i2s, stp_lcmp, stp_dup, stp_dup2, stp_pop, stp_ifCond, stp_if_icmp, stp_goto, stp_tableswitch, stp_lookupswitch, stp_ldc, stp_ldc_w, stp_ldc2_w, stp_getstatic, stp_getfield, stp_putfield, stp_iaload, stp_baload, stp_iastore, stp_bastore, stp_aaload, stp_aastore, stp_invokevirtual, stp_invokestatic, stp_ireturn, stp_lreturn, stp_return_, lg, lset, okl, spl, wd, c1, cnd, tg, swT, swL, f4_0, f4_1, f4_2, f4_3, f2_0, f2_1, List.mem_cons, List.not_mem_nil, List.length_cons, List.length_nil, List.cons_append, List.nil_append, Nat.reduceAdd, Nat.reduceMul, Nat.reduceLT, Nat.reduceEqDiff, Nat.reduceLeDiff, Int.reduceAdd, Int.reduceNeg, Int.reduceToNat, Int.cast_ofNat_Int, Int.reduceNatCast, Int.toNat_zero, Int.toNat_one, Int.reduceLE, Int.reduceLT, Int.reduceEq, Int.zero_add, Int.add_zero, or_false, false_or, or_true, true_or, and_true, true_and, and_false, false_and, reduceIte, not_true_eq_false, not_false_eq_true, forall_const, false_implies, true_implies, implies_true, ne_eq, reduceCtorEq, List.all_cons, List.all_nil, Bool.and_true, Bool.and_self, decide_eq_true_eq, decide_true, dX4_takeStation_0, dX4_takeStation_1, dX4_takeStation_4, dX4_takeStation_5, dX4_takeStation_8, dX4_takeStation_9, dX4_takeStation_10, dX4_takeStation_11, dX4_takeStation_14, dX4_takeStation_17, dX4_takeStation_18, dX4_takeStation_19, dX4_takeStation_22, dX4_takeStation_23, dX4_takeStation_26, dX4_takeStation_27, dX4_takeStation_28, dX4_takeStation_29, dX4_takeStation_30, dX4_takeStation_31, dX4_takeStation_32, dX4_takeStation_33, dX4_takeStation_35, dX4_takeStation_37, dX4_takeStation_38, dX4_takeStation_41, dX4_takeStation_42, dX4_takeStation_45, dX4_takeStation_48, dX4_takeStation_49, dX4_takeStation_51, dX4_takeStation_52, dX4_takeStation_55, dX4_takeStation_57, dX4_takeStation_58, dX4_takeStation_61, dX4_takeStation_63, dX4_takeStation_64, dX4_takeStation_67, dX4_takeStation_68, dX4_takeStation_71, dX4_takeStation_74, dX4_takeStation_75, dX4_takeStation_76, dX4_takeStation_77, dX4_takeStation_78, dX4_takeStation_79, dX4_takeStation_81, dX4_takeStation_82, dX4_takeStation_83, dX4_takeStation_84, dX4_takeStation_85, dX4_takeStation_88, dX4_takeStation_89, dX4_takeStation_90, dX4_takeStation_93, FX4_43, FX4_61, FX4_79, FX4_20, CX4_83, CX4_87, G_X4_takeStation_53, G_X4_takeStation_75, kd_8, kd_19, r1, h6, T4_blame]
    repeat' (first | exact trivial | omega | (with_reducible assumption) | exact absurd trivial (by with_reducible assumption) | contradiction | apply And.intro | intro _)
theorem good_X4_takeStation (l : Launch) : Good l 3 yX4_takeStation cX4_takeStation 5 none T4_takeStation := by
  refine Good.mk 0 (by decide) rfl (by simp [retOK]) FOK4 COK4 (gk_X4_takeStation l) ?_ ?_
  · intro a μ K h
    unfold T4_takeStation at h
    split at h
    · simp [entl]
    · exact h.elim
  · intro a μ K V hV h
    unfold T4_takeStation at h
    split at h
    · exact body_X4_takeStation _ _ _ μ K V hV h
    · exact h.elim

