/-! the reference: visits one behind another -/
def Eq39 (f f' : Nat → Int) : Prop := ∀ x, x < 39 → f x = f' x
theorem Eq39.rf {f : Nat → Int} : Eq39 f f := fun _ _ => rfl
theorem Eq39.sy {f f' : Nat → Int} (h : Eq39 f f') : Eq39 f' f := fun x hx => (h x hx).symm
theorem Eq39.tr {f f' f'' : Nat → Int} (h : Eq39 f f') (h2 : Eq39 f' f'') : Eq39 f f'' := fun x hx => (h x hx).trans (h2 x hx)
theorem WF.of {f f' : Nat → Int} (h : WF f) (e : Eq39 f f') : WF f' := by
  obtain ⟨h1, h2, h3, h4⟩ := h
  refine ⟨by rw [← e 35 (by omega)]; exact h1, by rw [← e 35 (by omega), ← e 36 (by omega)]; exact h2, by rw [← e 38 (by omega), ← e 37 (by omega)]; exact h3, fun i hi => ?_⟩
  rw [← e 35 (by omega)] at hi
  exact SOK_congr (fun x hx => (e x (by omega)).symm) (by rw [e 38 (by omega)]; omega) (by omega) (h4 i hi)
theorem snd_congr {f f' : Nat → Int} (h : WF f) (e : Eq39 f f') (may : Bool) : sndI f may = sndI f' may := by
  unfold sndI
  rw [← e 35 (by omega), ← e 36 (by omega)]
  by_cases h0 : f 35 = 0
  · rw [if_pos h0, if_pos h0]
  · rw [if_neg h0, if_neg h0]
    have h2 := h.2.1 h0
    rw [due_congr (f := f') (f' := f) (fun x hx => e x (by omega)) (by rw [← e 35 (by omega)]; exact h.1.2) (by have := h.1; omega)]
theorem mid_congr {f f' : Nat → Int} (e : Eq39 f f') {i : Nat} (hi : i < 5) (s : Int) : Eq39 (mid f i s) (mid f' i s) := by
  intro x hx
  unfold mid upF
  rw [e x hx, e 38 (by omega), e 37 (by omega), e (7 * i + 1) (by omega), e (7 * i + 4) (by omega), e (7 * i + 5) (by omega)]
theorem nxt_congr {f f' : Nat → Int} (h : WF f) (e : Eq39 f f') (may : Bool) : Eq39 (nxt f may) (nxt f' may) ∧ lstI f may = lstI f' may := by
  have es := snd_congr h e may
  unfold nxt lstI
  rw [← es, ← e 35 (by omega), ← e 36 (by omega)]
  by_cases h0 : f 35 = 0
  · rw [if_pos h0, if_pos h0, if_pos h0, if_pos h0]
    refine ⟨fun x hx => ?_, rfl⟩
    unfold upF
    rw [e x hx, e 38 (by omega)]
  · rw [if_neg h0, if_neg h0, if_neg h0, if_neg h0]
    have h2 := h.2.1 h0
    have h1 := h.1
    have hi : (f 36).toNat < 5 := by omega
    have em := mid_congr e hi (sndI f may)
    have et : tms f (f 36).toNat (sndI f may) = tms f' (f 36).toNat (sndI f may) := by
      unfold tms
      rw [e 37 (by omega), e (7 * (f 36).toNat + 4) (by omega)]
    rw [← et]
    refine ⟨fun x hx => ?_, cmL_congr em _ (by omega)⟩
    unfold upF
    rw [cmF_congr em _ (by omega) x hx]
theorem nx_congr {p : Nat → (Nat → Int) → Bool} (hp : ∀ n f f', Eq39 f f' → p n f = p n f') {f f' : Nat → Int} (h : WF f) (e : Eq39 f f') : ∀ n, Eq39 (nx p f n) (nx p f' n) ∧ sS p f n = sS p f' n ∧ sL p f n = sL p f' n
  | 0 => ⟨e, rfl, rfl⟩
  | n + 1 => by
    obtain ⟨h1, h2, h3⟩ := nx_congr hp h e n
    have hw := (nx_WF (p := p) h n).1
    have hc := nxt_congr hw h1 (p n (nx p f n))
    simp only [nx, sS, sL]
    rw [← hp n _ _ h1]
    refine ⟨hc.1, ?_, ?_⟩
    · rw [h2, snd_congr hw h1]
    · rw [h3, hc.2]
/-- the reference behind n visits -/
def MGR (p : Nat → (Nat → Int) → Bool) (μ ν : Mem) (n : Nat) : Prop :=
  Eq39 (rI ν 68) (nx p (rI μ 68) n) ∧ rI ν 68 39 = min 999999 (rI μ 68 39 + sS p (rI μ 68) n) ∧ rI ν 68 40 = min 999999 (rI μ 68 40 + sL p (rI μ 68) n) ∧ (∀ j, 41 ≤ j → rI ν 68 j = rI μ 68 j) ∧
  rI ν 66 14 = rI μ 66 14 + sS p (rI μ 68) n ∧ rI ν 66 15 = rI μ 66 15 + (nx p (rI μ 68) n 37 - rI μ 68 37) ∧ rI ν 66 16 = rI μ 66 16 + sL p (rI μ 68) n ∧ (∀ j, j ≠ 14 → j ≠ 15 → j ≠ 16 → rI ν 66 j = rI μ 66 j) ∧
  (∀ j : Nat, j < 5 → (j : Int) < rI μ 68 35 → rI ν 72 j = rI μ 72 j + (nx p (rI μ 68) n (7 * j + 5) - rI μ 68 (7 * j + 5))) ∧
  (∀ a, a ≠ 66 → a ≠ 68 → a ≠ 72 → ∀ j, rI ν a j = rI μ a j) ∧ (∀ a j, rR ν a j = rR μ a j) ∧ 0 ≤ sS p (rI μ 68) n ∧ 0 ≤ sL p (rI μ 68) n
theorem lst_nn {f : Nat → Int} (may : Bool) (h : WF f) : 0 ≤ lstI f may ∧ lstI f may ≤ 135 := by
  unfold lstI
  by_cases h0 : f 35 = 0
  · rw [if_pos h0]; omega
  · rw [if_neg h0]
    have hs := snd_in h may
    have h2 := h.2.1 h0
    have h1 := h.1
    have hq := h.2.2.2 (f 36).toNat (by omega)
    have ht := tms_in hq h.2.2.1.2.1 ⟨hs.1, hs.2.1⟩
    have := cmL_nn ht (f 35).toNat (fun k hk => mid_SOK (may := may) h h0 (by omega))
    omega
theorem own_nxt {f : Nat → Int} (may : Bool) (h : WF f) {j : Nat} (hj : (j : Int) < f 35) : nxt f may (7 * j + 5) = f (7 * j + 5) + (if f 35 ≠ 0 ∧ j = (f 36).toNat then sndI f may else 0) := by
  have h1 := h.1
  have h0 : f 35 ≠ 0 := by omega
  have h2 := h.2.1 h0
  rw [nxt_q f may h j 5 hj (by omega), if_neg (by omega), mid_q f _ _ j 5 (by omega) (by omega) (by omega)]
  by_cases e : j = (f 36).toNat
  · rw [if_pos e, if_neg (by omega), if_pos rfl, if_pos ⟨h0, e⟩, ← e]
  · rw [if_neg e, if_neg (fun z => e z.2)]; omega
theorem MGR.rf {p : Nat → (Nat → Int) → Bool} {μ : Mem} (h1 : rI μ 68 39 ≤ 999999) (h2 : rI μ 68 40 ≤ 999999) : MGR p μ μ 0 := by
  refine ⟨Eq39.rf, ?_, ?_, fun _ _ => rfl, ?_, ?_, ?_, fun _ _ _ _ => rfl, ?_, fun _ _ _ _ _ => rfl, fun _ _ => rfl, ?_, ?_⟩
  · simp only [sS]; omega
  · simp only [sL]; omega
  · simp [sS]
  · simp [nx]
  · simp [sL]
  · intro j _ _; simp [nx]
  · simp [sS]
  · simp [sL]
theorem MGR.st {p : Nat → (Nat → Int) → Bool} {μ ν ρ : Mem} {n : Nat} {may : Bool} (hW : WF (rI μ 68)) (h : MGR p μ ν n) (hv : VP ν ρ may) (hm : may = p n (nx p (rI μ 68) n)) : MGR p μ ρ (n + 1) := by
  obtain ⟨a1, a2, a3, a4, a5, a6, a7, a8, a9, a10, a11, a12, a13⟩ := h
  obtain ⟨b1, b2, b3, b4, b5, b6, b7, b8, b9, b10, b11⟩ := hv
  obtain ⟨x1, x2, x3⟩ := nx_WF (p := p) hW n
  have hw := x1.of a1.sy
  have hc := nxt_congr hw a1 may
  have hs := snd_congr hw a1 may
  have hsn := snd_in x1 may
  have hln := lst_nn may x1
  rw [hc.2] at b3 b7
  rw [hs] at b2 b5 b9
  subst hm
  refine ⟨?_, ?_, ?_, ?_, ?_, ?_, ?_, ?_, ?_, ?_, ?_, ?_, ?_⟩
  · exact (fun x hx => (b1 x hx).trans (hc.1 x hx))
  · rw [b2, a2, sS]; omega
  · rw [b3, a3, sL]; omega
  · intro j hj; rw [b4 j hj, a4 j hj]
  · rw [b5, a5, sS]; omega
  · rw [b6, a6, hc.1 37 (by omega), a1 37 (by omega), nx]; omega
  · rw [b7, a7, sL]; omega
  · intro j j1 j2 j3; rw [b8 j j1 j2 j3, a8 j j1 j2 j3]
  · intro j hj hj2
    have ho := own_nxt (p n (nx p (rI μ 68) n)) x1 (j := j) (by rw [x3]; exact hj2)
    rw [b9 j hj, a9 j hj hj2, a1 35 (by omega), a1 36 (by omega), nx, ho]
    omega
  · intro a h1 h2 h3 j; rw [b10 a h1 h2 h3 j, a10 a h1 h2 h3 j]
  · intro a j; rw [b11, a11]
  · rw [sS]; omega
  · rw [sL]; omega
/-- who is passed by -/
def psd (w : Int) : Nat → (Nat → Int) → Bool := fun _ f => decide (f 36 ≠ w)
theorem psd_congr (w : Int) : ∀ n f f', Eq39 f f' → psd w n f = psd w n f' := fun n f f' h => by
  unfold psd
  rw [h 36 (by omega)]
def GL_X6_visitsGo : List (Nat × Nat × Bool × TT) := [(170, 2, false, T6_visitGoes)]
def G_X6_visitsGo : Nat → Option (Nat × Bool × TT) := fun i => GL_X6_visitsGo.lookup i
theorem G_X6_visitsGo_170 : G_X6_visitsGo 170 = some (2, false, T6_visitGoes) := rfl

set_option maxRecDepth 20000 in
set_option maxHeartbeats 4000000 in
theorem lp_visitsGo (V : Nat → List (Option AV) → List AV → Mem → Prop) (K : List AV → Mem → Prop) (hV : Clos FX6 CX6 G_X6_visitsGo 0 K cX6_visitsGo V) (μ : Mem) (hW : WF (rI μ 68)) (e : Nat) (he : e ≤ 1000) (h38 : rI μ 68 38 + e ≤ 20000) (h39 : 0 ≤ rI μ 68 39 ∧ rI μ 68 39 ≤ 999999) (h40 : 0 ≤ rI μ 68 40 ∧ rI μ 68 40 ≤ 999999) (hp : InR (rI μ 66 13)) (hK : ∀ ν, MGR (psd (rI μ 66 13)) μ ν e → K [] ν) : ∀ m n : Nat, n + m = e → ∀ ν, MGR (psd (rI μ 66 13)) μ ν n → V 2 [some (.inr (.inr 66)), some (.inl (e : Int)), some (.inl (n : Int))] [] ν := by
  simp only [InR] at hp
  intro m
  induction m with
  | zero =>
    intro n hn ν hG
    have := hK ν (by rw [show e = n by omega]; exact hG)
    apply hV [2] 40
    simp only [InR, InL, inb, Int.toNat_natCast, wp1, wpc_z, wpc_s, stp_iconst, stp_bipush, stp_sipush, stp_lconst, stp_iload_n, stp_iload, stp_lload_n, stp_lload, stp_aload_n, stp_aload, stp_istore_n, stp_istore, stp_lstore_n, stp_lstore, stp_astore_n, stp_astore, stp_iinc, stp_iadd, stp_isub, stp_imul, stp_ineg, stp_idiv, stp_irem, stp_ladd, stp_lmul, stp_ldiv, stp_lrem, stp_ishl, stp_ishr, stp_iushr, stp_iand, stp_ior, stp_i2l, stp_i2b, stp_i2s, stp_lcmp, stp_dup, stp_dup2, stp_pop, stp_ifCond, stp_if_icmp, stp_goto, stp_tableswitch, stp_lookupswitch, stp_ldc, stp_ldc_w, stp_ldc2_w, stp_getstatic, stp_getfield, stp_putfield, stp_iaload, stp_baload, stp_iastore, stp_bastore, stp_aaload, stp_aastore, stp_invokevirtual, stp_invokestatic, stp_ireturn, stp_lreturn, stp_return_, lg, lset, okl, spl, wd, c1, cnd, tg, swT, swL, f4_0, f4_1, f4_2, f4_3, f2_0, f2_1, List.mem_cons, List.not_mem_nil, List.length_cons, List.length_nil, List.cons_append, List.nil_append, Nat.reduceAdd, Nat.reduceMul, Nat.reduceLT, Nat.reduceEqDiff, Nat.reduceLeDiff, Int.reduceAdd, Int.reduceNeg, Int.reduceToNat, Int.cast_ofNat_Int, Int.reduceNatCast, Int.toNat_zero, Int.toNat_one, Int.reduceLE, Int.reduceLT, Int.reduceEq, Int.zero_add, Int.add_zero, or_false, false_or, or_true, true_or, and_true, true_and, and_false, false_and, reduceIte, not_true_eq_false, not_false_eq_true, forall_const, false_implies, true_implies, implies_true, ne_eq, reduceCtorEq, List.all_cons, List.all_nil, Bool.and_true, Bool.and_self, decide_eq_true_eq, decide_true, dX6_visitsGo_0, dX6_visitsGo_1, dX6_visitsGo_2, dX6_visitsGo_3, dX6_visitsGo_4, dX6_visitsGo_7, dX6_visitsGo_8, dX6_visitsGo_9, dX6_visitsGo_12, dX6_visitsGo_15, dX6_visitsGo_18, G_X6_visitsGo_170, kd_66, kd_67, kd_68, kd_69, kd_70, kd_71, kd_72, kd_73, kd_74, kd_75, kd_76, kd_77, kd_78, ln_66, ln_67, ln_68, ln_69, ln_70, ln_71, ln_72, ln_73, ln_74, ln_75, ln_76, ln_77, ln_78]
    repeat' (first | exact trivial | omega | (with_reducible assumption) | exact absurd trivial (by with_reducible assumption) | contradiction | apply And.intro | intro _)
  | succ m ih =>
    intro n hn ν hG
    have hG' := hG
    obtain ⟨a1, a2, a3, a4, a5, a6, a7, a8, a9, a10, a11, a12, a13⟩ := hG
    obtain ⟨x1, x2, x3⟩ := nx_WF (p := psd (rI μ 66 13)) hW n
    have hw := x1.of a1.sy
    have e38 := a1 38 (by omega)
    have e13 := a8 13 (by omega) (by omega) (by omega)
    apply hV [2] 40
    simp only [InR, InL, inb, Int.toNat_natCast, wp1, wpc_z, wpc_s, stp_iconst, stp_bipush, stp_sipush, stp_lconst, stp_iload_n, stp_iload, stp_lload_n, stp_lload, stp_aload_n, stp_aload, stp_istore_n, stp_istore, stp_lstore_n, stp_lstore, stp_astore_n, stp_astore, stp_iinc, stp_iadd, stp_isub, stp_imul, stp_ineg, stp_idiv, stp_irem, stp_ladd, stp_lmul, stp_ldiv, stp_lrem, stp_ishl, stp_ishr, stp_iushr, stp_iand, stp_ior, stp_i2l, stp_i2b, stp_i2s, stp_lcmp, stp_dup, stp_dup2, stp_pop, stp_ifCond, stp_if_icmp, stp_goto, stp_tableswitch, stp_lookupswitch, stp_ldc, stp_ldc_w, stp_ldc2_w, stp_getstatic, stp_getfield, stp_putfield, stp_iaload, stp_baload, stp_iastore, stp_bastore, stp_aaload, stp_aastore, stp_invokevirtual, stp_invokestatic, stp_ireturn, stp_lreturn, stp_return_, lg, lset, okl, spl, wd, c1, cnd, tg, swT, swL, f4_0, f4_1, f4_2, f4_3, f2_0, f2_1, List.mem_cons, List.not_mem_nil, List.length_cons, List.length_nil, List.cons_append, List.nil_append, Nat.reduceAdd, Nat.reduceMul, Nat.reduceLT, Nat.reduceEqDiff, Nat.reduceLeDiff, Int.reduceAdd, Int.reduceNeg, Int.reduceToNat, Int.cast_ofNat_Int, Int.reduceNatCast, Int.toNat_zero, Int.toNat_one, Int.reduceLE, Int.reduceLT, Int.reduceEq, Int.zero_add, Int.add_zero, or_false, false_or, or_true, true_or, and_true, true_and, and_false, false_and, reduceIte, not_true_eq_false, not_false_eq_true, forall_const, false_implies, true_implies, implies_true, ne_eq, reduceCtorEq, List.all_cons, List.all_nil, Bool.and_true, Bool.and_self, decide_eq_true_eq, decide_true, dX6_visitsGo_0, dX6_visitsGo_1, dX6_visitsGo_2, dX6_visitsGo_3, dX6_visitsGo_4, dX6_visitsGo_7, dX6_visitsGo_8, dX6_visitsGo_9, dX6_visitsGo_12, dX6_visitsGo_15, dX6_visitsGo_18, G_X6_visitsGo_170, kd_66, kd_67, kd_68, kd_69, kd_70, kd_71, kd_72, kd_73, kd_74, kd_75, kd_76, kd_77, kd_78, ln_66, ln_67, ln_68, ln_69, ln_70, ln_71, ln_72, ln_73, ln_74, ln_75, ln_76, ln_77, ln_78, T6_visitGoes]
    repeat' (first | exact trivial | omega | (with_reducible assumption) | exact absurd trivial (by with_reducible assumption) | contradiction | apply And.intro | intro _)
    rename_i ρ hρ
    have h := ih (n + 1) (by omega) ρ (hG'.st hW hρ (by
      unfold psd
      rw [e13, a1 36 (by omega)]
      rfl))
    rw [show ((n + 1 : Nat) : Int) = (n : Int) + 1 by omega] at h
    exact h
def T6_visitsGo : TT := fun a μ K => match a with
  | [.inr (.inr o), .inl n] => o = 66 ∧ ((0 ≤ n ∧ n ≤ 1000) ∧ WF (rI μ 68) ∧ rI μ 68 38 + n ≤ 20000 ∧ (0 ≤ rI μ 68 39 ∧ rI μ 68 39 ≤ 999999) ∧ (0 ≤ rI μ 68 40 ∧ rI μ 68 40 ≤ 999999) ∧ InR (rI μ 66 13) ∧ ∀ ν, MGR (psd (rI μ 66 13)) μ ν n.toNat → K [] ν)
  | _ => False
theorem rec_X6_visitsGo : ∀ a μ K, T6_visitsGo a μ K → ∃ k r, a = .inr (.inr k) :: r ∧ kd k = 6 := by
  intro a μ K h
  unfold T6_visitsGo at h
  split at h
  · exact ⟨_, _, rfl, by rw [h.1]; rfl⟩
  · exact h.elim
theorem gk_X6_visitsGo (l : Launch) : ∀ i n b T, G_X6_visitsGo i = some (n, b, T) → CallOK l 4 RX6 i n b T := by
  intro i n b T h
  have hm : (i, n, b, T) ∈ GL_X6_visitsGo := lk_mem h
  simp only [GL_X6_visitsGo, List.mem_cons, List.not_mem_nil, or_false, Prod.mk.injEq] at hm
  rcases hm with ⟨rfl, rfl, rfl, rfl⟩
  · exact CallOK.V (d := 4) (own := RX6) (i := 170) (n := 1) (ci := 6) (good_X6_visitGoes l) (by decide) (by decide) rfl (by decide) rec_X6_visitGoes (mg 853 (by decide +kernel) (by decide +kernel)) (mg 855 (by decide +kernel) (by decide +kernel)) (mgs 46 (by decide +kernel) (by decide +kernel)) (mg 7 (by decide +kernel) (by decide +kernel)) (mg 856 (by decide +kernel) (by decide +kernel)) (by decide +kernel)
set_option maxRecDepth 20000 in
set_option maxHeartbeats 4000000 in
theorem body_X6_visitsGo (o : Nat) (n : Int) (μ : Mem) (K : List AV → Mem → Prop) (V : Nat → List (Option AV) → List AV → Mem → Prop) (hV : Clos FX6 CX6 G_X6_visitsGo 0 K cX6_visitsGo V) (hT : o = 66 ∧ ((0 ≤ n ∧ n ≤ 1000) ∧ WF (rI μ 68) ∧ rI μ 68 38 + n ≤ 20000 ∧ (0 ≤ rI μ 68 39 ∧ rI μ 68 39 ≤ 999999) ∧ (0 ≤ rI μ 68 40 ∧ rI μ 68 40 ≤ 999999) ∧ InR (rI μ 66 13) ∧ ∀ ν, MGR (psd (rI μ 66 13)) μ ν n.toNat → K [] ν)) : V 0 [some (.inr (.inr o)), some (.inl n), none] [] μ := by
  obtain ⟨rfl, ⟨h1, h2⟩, hW, h38, h39, h40, hp, hK⟩ := hT
  obtain ⟨e, rfl⟩ := Int.eq_ofNat_of_zero_le h1
  apply hV [2] 40
  simp only [InR, InL, inb, Int.toNat_natCast, wp1, wpc_z, wpc_s, stp_iconst, stp_bipush, stp_sipush, stp_lconst, stp_iload_n, stp_iload, stp_lload_n, stp_lload, stp_aload_n, stp_aload, stp_istore_n, stp_istore, stp_lstore_n, stp_lstore, stp_astore_n, stp_astore, stp_iinc, stp_iadd, stp_isub, stp_imul, stp_ineg, stp_idiv, stp_irem, stp_ladd, stp_lmul, stp_ldiv, stp_lrem, stp_ishl, stp_ishr, stp_iushr, stp_iand, stp_ior, stp_i2l, stp_i2b, stp_i2s, stp_lcmp, stp_dup, stp_dup2, stp_pop, stp_ifCond, stp_if_icmp, stp_goto, stp_tableswitch, stp_lookupswitch, stp_ldc, stp_ldc_w, stp_ldc2_w, stp_getstatic, stp_getfield, stp_putfield, stp_iaload, stp_baload, stp_iastore, stp_bastore, stp_aaload, stp_aastore, stp_invokevirtual, stp_invokestatic, stp_ireturn, stp_lreturn, stp_return_, lg, lset, okl, spl, wd, c1, cnd, tg, swT, swL, f4_0, f4_1, f4_2, f4_3, f2_0, f2_1, List.mem_cons, List.not_mem_nil, List.length_cons, List.length_nil, List.cons_append, List.nil_append, Nat.reduceAdd, Nat.reduceMul, Nat.reduceLT, Nat.reduceEqDiff, Nat.reduceLeDiff, Int.reduceAdd, Int.reduceNeg, Int.reduceToNat, Int.cast_ofNat_Int, Int.reduceNatCast, Int.toNat_zero, Int.toNat_one, Int.reduceLE, Int.reduceLT, Int.reduceEq, Int.zero_add, Int.add_zero, or_false, false_or, or_true, true_or, and_true, true_and, and_false, false_and, reduceIte, not_true_eq_false, not_false_eq_true, forall_const, false_implies, true_implies, implies_true, ne_eq, reduceCtorEq, List.all_cons, List.all_nil, Bool.and_true, Bool.and_self, decide_eq_true_eq, decide_true, dX6_visitsGo_0, dX6_visitsGo_1, dX6_visitsGo_2, dX6_visitsGo_3, dX6_visitsGo_4, dX6_visitsGo_7, dX6_visitsGo_8, dX6_visitsGo_9, dX6_visitsGo_12, dX6_visitsGo_15, dX6_visitsGo_18, G_X6_visitsGo_170, kd_66, kd_67, kd_68, kd_69, kd_70, kd_71, kd_72, kd_73, kd_74, kd_75, kd_76, kd_77, kd_78, ln_66, ln_67, ln_68, ln_69, ln_70, ln_71, ln_72, ln_73, ln_74, ln_75, ln_76, ln_77, ln_78]
  exact lp_visitsGo V K hV μ hW e (by omega) h38 h39 h40 hp hK e 0 (by omega) μ (MGR.rf h39.2 h40.2)
theorem good_X6_visitsGo (l : Launch) : Good l 4 yX6_visitsGo cX6_visitsGo 3 none T6_visitsGo := by
  refine Good.mk 0 (by decide) rfl (by simp [retOK]) FOK6 COK6 (gk_X6_visitsGo l) ?_ ?_
  · intro a μ K h
    unfold T6_visitsGo at h
    split at h
    · simp [entl]
    · exact h.elim
  · intro a μ K V hV h
    unfold T6_visitsGo at h
    split at h
    · exact body_X6_visitsGo _ _ μ K V hV h
    · exact h.elim

