/-! both: read -/
def pokB (f : Nat → Int) (i n : Int) : Bool := decide ((0 ≤ i ∧ i < f 35) ∧ 0 ≤ n ∧ n ≤ 99)
theorem pok_iff (f : Nat → Int) (i n : Int) : pokB f i n = true ↔ postOK f i n := by
  unfold pokB postOK
  exact decide_eq_true_iff
theorem fAt_in (s n l i : Int) : 0 ≤ fAt s n l i ∧ fAt s n l i ≤ 3 := by
  unfold fAt
  split
  · omega
  · split
    · omega
    · split <;> omega
theorem fAt_z {s n l i : Int} (h : fAt s n l i = 0) : s ≠ -4 ∧ l = n ∧ 0 ≤ i ∧ i ≤ s - 1 := by
  unfold fAt at h
  split at h
  · cases h
  · split at h
    · cases h
    · split at h
      · omega
      · cases h
/-- what the machine finds at two cells -/
def fpr (s n l a : Int) : Int := if fAt s n l a ≠ 0 then fAt s n l a else fAt s n l (a + 1)
theorem fpr_in (s n l a : Int) : 0 ≤ fpr s n l a ∧ fpr s n l a ≤ 3 := by
  have h1 := fAt_in s n l a
  have h2 := fAt_in s n l (a + 1)
  unfold fpr
  split <;> omega
theorem fpr_z {s n l a : Int} (h : fpr s n l a = 0) : fAt s n l a = 0 ∧ fAt s n l (a + 1) = 0 := by
  unfold fpr at h
  split at h
  · rename_i z; exact absurd h z
  · rename_i z; exact ⟨Classical.not_not.mp z, h⟩
/-- how many are whole, and what ended it (-1: a refusal) -/
def rdW (s n l a : Int) (c f : Nat → Int) : Nat → Nat → Int × Int
  | 0, j => (j, 0)
  | m + 1, j => if fpr s n l (a + 2 * j) ≠ 0 then (j, fpr s n l (a + 2 * j)) else if pokB f (c (a + 2 * j).toNat) (c (a + 2 * j + 1).toNat) = true then rdW s n l a c f m (j + 1) else (j, -1)
theorem rdW_ok {s n l a : Int} {c f : Nat → Int} : ∀ m j : Nat, ∃ w : Nat, (rdW s n l a c f m j).1 = w ∧ j ≤ w ∧ w ≤ j + m ∧ (-1 ≤ (rdW s n l a c f m j).2 ∧ (rdW s n l a c f m j).2 ≤ 3) ∧ ∀ b, j ≤ b → b < w → fpr s n l (a + 2 * b) = 0 ∧ pokB f (c (a + 2 * b).toNat) (c (a + 2 * b + 1).toNat) = true
  | 0, j => ⟨j, rfl, by omega, by omega, ⟨by simp [rdW], by simp [rdW]⟩, fun b h1 h2 => by omega⟩
  | m + 1, j => by
    simp only [rdW]
    have hf := fpr_in s n l (a + 2 * j)
    by_cases z : fpr s n l (a + 2 * j) ≠ 0
    · rw [if_pos z]
      exact ⟨j, rfl, by omega, by omega, ⟨by simp only; omega, by simp only; omega⟩, fun b h1 h2 => by omega⟩
    · rw [if_neg z]
      by_cases y : pokB f (c (a + 2 * j).toNat) (c (a + 2 * j + 1).toNat) = true
      · rw [if_pos y]
        obtain ⟨w, h1, h2, h3, h4, h5⟩ := rdW_ok (s := s) (n := n) (l := l) (a := a) (c := c) (f := f) m (j + 1)
        refine ⟨w, h1, by omega, by omega, h4, fun b b1 b2 => ?_⟩
        by_cases e : b = j
        · subst e; exact ⟨Classical.not_not.mp z, y⟩
        · exact h5 b (by omega) b2
      · rw [if_neg y]
        exact ⟨j, rfl, by omega, by omega, ⟨by simp, by simp⟩, fun b h1 h2 => by omega⟩
/-- the state behind so many of them -/
def pN (f : Nat → Int) (a : Int) (c : Nat → Int) : Nat → Nat → Int
  | 0 => f
  | j + 1 => postF (pN f a c j) (c (a + 2 * j).toNat).toNat (c (a + 2 * j + 1).toNat)
def ovP (f : Nat → Int) (a : Int) (c : Nat → Int) (j : Nat) : Int := c (a + 2 * j + 1).toNat - min (c (a + 2 * j + 1).toNat) (99 - pN f a c j (7 * (c (a + 2 * j).toNat).toNat + 1))
def ovS (f : Nat → Int) (a : Int) (c : Nat → Int) : Nat → Int
  | 0 => 0
  | j + 1 => ovS f a c j + ovP f a c j
theorem postF_WF {f : Nat → Int} (h : WF f) {i : Nat} (hi : (i : Int) < f 35) {n : Int} (hn : 0 ≤ n ∧ n ≤ 99) : WF (postF f i n) := by
  have hq := (h.2.2.2 i hi).2.1
  have h35 := h.1
  have h1 := h.set (t := 1) hi (by omega) (v := f (7 * i + 1) + min n (99 - f (7 * i + 1))) ⟨fun z => by omega, fun _ => by omega, fun z => by omega, fun z => by omega, fun z => by omega⟩
  refine h1.of (fun x hx => ?_)
  unfold postF
  exact (upF_n _ _ (by omega)).symm
theorem postF_o (f : Nat → Int) {i : Nat} (hi : i < 5) (n : Int) {x : Nat} (hx : 35 ≤ x) (h40 : x ≠ 40) : postF f i n x = f x := by
  unfold postF
  rw [upF_n _ _ h40, upF_n _ _ (by omega)]
theorem pN_ok {f : Nat → Int} (hW : WF f) (h40 : 0 ≤ f 40 ∧ f 40 ≤ 999999) {a : Int} {c : Nat → Int} : ∀ j : Nat, (∀ b, b < j → postOK f (c (a + 2 * b).toNat) (c (a + 2 * b + 1).toNat)) → WF (pN f a c j) ∧ (∀ x, 35 ≤ x → x ≠ 40 → pN f a c j x = f x) ∧ pN f a c j 40 = min 999999 (f 40 + ovS f a c j) ∧ (0 ≤ ovS f a c j ∧ ovS f a c j ≤ 99 * j)
  | 0, _ => ⟨hW, fun _ _ _ => rfl, by simp only [pN, ovS]; omega, by simp [ovS]⟩
  | j + 1, h => by
    obtain ⟨h1, h2, h3, h4⟩ := pN_ok hW h40 j (fun b hb => h b (by omega))
    have hp := h j (by omega)
    unfold postOK at hp
    have h35 := hW.1
    have e35 := h2 35 (by omega) (by omega)
    have hi : (((c (a + 2 * j).toNat).toNat : Nat) : Int) < pN f a c j 35 := by rw [e35]; omega
    have hq := (h1.2.2.2 _ hi).2.1
    refine ⟨postF_WF h1 hi hp.2, fun x hx hx2 => ?_, ?_, ?_⟩
    · show postF _ _ _ x = _
      rw [postF_o _ (by omega) _ hx hx2, h2 x hx hx2]
    · show postF _ _ _ 40 = _
      unfold postF
      rw [upF_s, h3]
      simp only [ovS, ovP]
      omega
    · simp only [ovS, ovP]
      omega
theorem RG.w6 {μ : Mem} {B : Nat} {f : Nat → Int} (h : RG μ B f) (h35 : f 35 ≤ 5) {j : Nat} (hj : 5 ≤ j) (v : Int) : RG (wI μ B j v) B f := by
  obtain ⟨r1, r2, r3, r4, r5, r6⟩ := h
  refine ⟨r1.of (fun _ => rfl), by rw [rI_wI, if_neg (by omega)]; exact r2, by rw [rI_wI, if_neg (by omega)]; exact r3, by rw [rI_wI, if_neg (by omega)]; exact r4, by rw [rI_wI, if_neg (by omega)]; exact r5, fun i t hi ht => ?_⟩
  have := r1.1 i (by omega)
  rw [rR_wI, rI_wI, if_neg (by omega)]
  exact r6 i t hi ht
/-- the class behind read() -/
def CSr (μ ν : Mem) (f : Nat → Int) (r : Int) : Prop := RG ν 1 f ∧ rI ν 1 5 = f 39 ∧ rI ν 1 6 = f 40 ∧ rI ν 0 7 = r ∧ (∀ j, j ≠ 7 → rI ν 0 j = rI μ 0 j) ∧ (∀ k, 7 < k → ∀ j, rI ν k j = rI μ k j) ∧ ∀ k j, rR ν k j = rR μ k j
/-- the reference behind read() -/
def MSr (μ ν : Mem) (f : Nat → Int) (r : Int) : Prop := (∀ j, j < 60 → rI ν 67 j = f j) ∧ (∀ j, 60 ≤ j → rI ν 67 j = rI μ 67 j) ∧ (∀ k, k ≠ 66 → k ≠ 67 → k ≠ 68 → k ≠ 72 → k ≠ 73 → k ≠ 74 → k ≠ 78 → ∀ j, rI ν k j = rI μ k j) ∧ (∀ j, j < 13 → rI ν 66 j = rI μ 66 j) ∧ rI ν 66 28 = r ∧ ∀ k j, rR ν k j = rR μ k j
def AI (μ ν : Mem) (f : Nat → Int) (a : Int) (c : Nat → Int) (j : Nat) : Prop := RG ν 1 (pN f a c j) ∧ rI ν 1 5 = rI μ 1 5 ∧ rI ν 1 6 = rI μ 1 6 + ovS f a c j ∧ (∀ k, (k < 1 ∨ 7 < k) → ∀ b, rI ν k b = rI μ k b) ∧ ∀ k b, rR ν k b = rR μ k b
theorem AI.st {μ ν : Mem} {f : Nat → Int} {a : Int} {c : Nat → Int} {j : Nat} (h : AI μ ν f a c j) (h35 : pN f a c j 35 ≤ 5) {i : Nat} (hi : (i : Int) < pN f a c j 35) (ei : c (a + 2 * j).toNat = i) : AI μ (wI (wI ν (rR ν 2 i) 1 (pN f a c j (7 * i + 1) + min (c (a + 2 * j + 1).toNat) (99 - pN f a c j (7 * i + 1)))) 1 6 (rI ν 1 6 + (c (a + 2 * j + 1).toNat - min (c (a + 2 * j + 1).toNat) (99 - pN f a c j (7 * i + 1))))) f a c (j + 1) := by
  obtain ⟨h1, h2, h3, h4, h5⟩ := h
  have hr : 3 ≤ rR ν 2 i ∧ rR ν 2 i ≤ 7 := h1.1.1 i (by omega)
  have hs := h1.set h35 (i := i) (t := 1) hi (by omega) (pN f a c j (7 * i + 1) + min (c (a + 2 * j + 1).toNat) (99 - pN f a c j (7 * i + 1)))
  have hs6 := hs.w6 (j := 6) (by rw [upF_n _ _ (by omega)]; exact h35) (by omega) (rI ν 1 6 + (c (a + 2 * j + 1).toNat - min (c (a + 2 * j + 1).toNat) (99 - pN f a c j (7 * i + 1))))
  refine ⟨?_, ?_, ?_, ?_, ?_⟩
  · refine hs6.congr (fun x hx => ?_) (by rw [upF_n _ _ (by omega)]; exact h35)
    show _ = postF (pN f a c j) (c (a + 2 * j).toNat).toNat (c (a + 2 * j + 1).toNat) x
    unfold postF
    rw [ei, Int.toNat_natCast, upF_n (j := 40) _ _ (by omega)]
  · rw [rI_wI, if_neg (by omega), rI_wI, if_neg (by omega)]; exact h2
  · rw [rI_wI, if_pos ⟨rfl, rfl⟩, h3]
    simp only [ovS, ovP]
    rw [ei, Int.toNat_natCast]
    omega
  · intro k hk b
    rw [rI_wI, if_neg (by omega), rI_wI, if_neg (by omega)]
    exact h4 k hk b
  · exact h5
def GL_X5_read : List (Nat × Nat × Bool × TT) := [(52, 3, true, T5_isOutside), (210, 3, false, T3_faultOfPair), (125, 3, false, T1_takes), (129, 3, false, T1_add), (133, 1, false, T1_cut)]
def G_X5_read : Nat → Option (Nat × Bool × TT) := fun i => GL_X5_read.lookup i
theorem G_X5_read_52 : G_X5_read 52 = some (3, true, T5_isOutside) := rfl
theorem G_X5_read_210 : G_X5_read 210 = some (3, false, T3_faultOfPair) := rfl
theorem G_X5_read_125 : G_X5_read 125 = some (3, false, T1_takes) := rfl
theorem G_X5_read_129 : G_X5_read 129 = some (3, false, T1_add) := rfl
theorem G_X5_read_133 : G_X5_read 133 = some (1, false, T1_cut) := rfl

set_option maxRecDepth 20000 in
set_option maxHeartbeats 4000000 in
theorem lp_rd2 (V : Nat → List (Option AV) → List AV → Mem → Prop) (K : List AV → Mem → Prop) (hV : Clos FX5 CX5 G_X5_read 1 K cX5_read V) (μ : Mem) (f : Nat → Int) (hW : WF f) (h38 : f 38 ≤ 9999) (e39 : rI μ 1 5 = f 39) (e40 : rI μ 1 6 = f 40) (h39 : 0 ≤ f 39 ∧ f 39 ≤ 999999) (h40 : 0 ≤ f 40 ∧ f 40 ≤ 999999) (k : Nat) (hk : k < 4) (s n l a : Int) (hs : s ≤ 40) (N r : Int) (w : Nat) (hw : w ≤ 20) (hok : ∀ b, b < w → fpr s n l (a + 2 * b) = 0 ∧ postOK f (rI μ (48 + 2 * k) (a + 2 * b).toNat) (rI μ (48 + 2 * k) (a + 2 * b + 1).toNat)) (x9 : Option AV) (hK : ∀ ν, CSr μ ν (pN f a (rI μ (48 + 2 * k)) w) r → K [.inl w] ν) : ∀ m j : Nat, j + m = w → ∀ ν, AI μ ν f a (rI μ (48 + 2 * k)) j → V 130 [some (.inr (.inr 0)), some (.inl (k : Int)), some (.inl l), some (.inl a), some (.inl N), some (.inr (.inr (48 + 2 * k))), some (.inl r), some (.inl (w : Int)), some (.inl (j : Int)), x9] [] ν := by
  have h35 := hW.1
  intro m
  induction m with
  | zero =>
    intro j hj ν hA
    have ej : j = w := by omega
    subst ej
    obtain ⟨a1, a2, a3, a4, a5⟩ := hA
    obtain ⟨p1, p2, p3, p4⟩ := pN_ok hW h40 (a := a) (c := rI μ (48 + 2 * k)) j (fun b hb => (hok b hb).2)
    have c3 : rI ν 1 3 = f 37 := by rw [a1.2.2.2.1, p2 37 (by omega) (by omega)]
    have h37 := hW.2.2.1
    rw [e39] at a2
    rw [e40] at a3
    have hfin := hK (wI (wI (wI (wI ν 1 3 (min (f 37) 999999)) 1 5 (min (f 39) 999999)) 1 6 (min (f 40 + ovS f a (rI μ (48 + 2 * k)) j) 999999)) 0 7 r) (by
      refine ⟨?_, ?_, ?_, ?_, ?_, ?_, ?_⟩
      · have e : wI ν 1 3 (min (f 37) 999999) = ν := mem_ext (fun x y => by
          rw [rI_wI]
          by_cases z : x = 1 ∧ y = 3
          · rw [if_pos z, z.1, z.2, c3]; omega
          · rw [if_neg z]) (fun _ _ => rfl)
        rw [e]
        have q35 : pN f a (rI μ (48 + 2 * k)) j 35 ≤ 5 := by rw [p2 35 (by omega) (by omega)]; exact h35.2
        exact ((a1.w6 q35 (by omega) _).w6 q35 (by omega) _).wo q35 (by omega) _ _
      · rw [p2 39 (by omega) (by omega)]; simp [rI_wI]; omega
      · rw [p3]; simp [rI_wI]; omega
      · simp [rI_wI]
      · intro y hy; rw [rI_wI, if_neg (by omega), rI_wI, if_neg (by omega), rI_wI, if_neg (by omega), rI_wI, if_neg (by omega)]; exact a4 0 (by omega) y
      · intro x hx y; rw [rI_wI, if_neg (by omega), rI_wI, if_neg (by omega), rI_wI, if_neg (by omega), rI_wI, if_neg (by omega)]; exact a4 x (by omega) y
      · exact a5)
    apply hV [130] 30
    simp only [InR, InL, inb, Int.toNat_natCast, wp1, wpc_z, wpc_s, stp_iconst, stp_bipush, stp_sipush, stp_lconst, stp_iload_n, stp_iload, stp_lload_n, stp_lload, stp_aload_n, stp_aload, stp_istore_n, stp_istore, stp_lstore_n, stp_lstore, stp_astore_n, stp_astore, stp_iinc, stp_iadd, stp_isub, stp_imul, stp_ineg, stp_idiv, stp_irem, stp_ladd, stp_lmul, stp_ldiv, stp_lrem, stp_ishl, stp_ishr, stp_iushr, stp_iand, stp_ior, stp_i2l, stp_i2b, stp_i2s, stp_lcmp, stp_dup, stp_dup2, stp_pop, stp_ifCond, stp_if_icmp, stp_goto, stp_tableswitch, stp_lookupswitch, stp_ldc, stp_ldc_w, stp_ldc2_w, stp_getstatic, stp_getfield, stp_putfield, stp_iaload, stp_baload, stp_iastore, stp_bastore, stp_aaload, stp_aastore, stp_invokevirtual, stp_invokestatic, stp_ireturn, stp_lreturn, stp_return_, lg, lset, okl, spl, wd, c1, cnd, tg, swT, swL, f4_0, f4_1, f4_2, f4_3, f2_0, f2_1, List.mem_cons, List.not_mem_nil, List.length_cons, List.length_nil, List.cons_append, List.nil_append, Nat.reduceAdd, Nat.reduceMul, Nat.reduceLT, Nat.reduceEqDiff, Nat.reduceLeDiff, Int.reduceAdd, Int.reduceNeg, Int.reduceToNat, Int.cast_ofNat_Int, Int.reduceNatCast, Int.toNat_zero, Int.toNat_one, Int.reduceLE, Int.reduceLT, Int.reduceEq, Int.zero_add, Int.add_zero, or_false, false_or, or_true, true_or, and_true, true_and, and_false, false_and, reduceIte, not_true_eq_false, not_false_eq_true, forall_const, false_implies, true_implies, implies_true, ne_eq, reduceCtorEq, List.all_cons, List.all_nil, Bool.and_true, Bool.and_self, decide_eq_true_eq, decide_true, dX5_read_0, dX5_read_1, dX5_read_2, dX5_read_3, dX5_read_6, dX5_read_9, dX5_read_10, dX5_read_11, dX5_read_12, dX5_read_15, dX5_read_18, dX5_read_20, dX5_read_21, dX5_read_23, dX5_read_26, dX5_read_29, dX5_read_30, dX5_read_31, dX5_read_32, dX5_read_35, dX5_read_36, dX5_read_37, dX5_read_40, dX5_read_42, dX5_read_43, dX5_read_45, dX5_read_46, dX5_read_48, dX5_read_49, dX5_read_51, dX5_read_53, dX5_read_55, dX5_read_58, dX5_read_60, dX5_read_63, dX5_read_64, dX5_read_65, dX5_read_67, dX5_read_68, dX5_read_69, dX5_read_71, dX5_read_72, dX5_read_75, dX5_read_76, dX5_read_77, dX5_read_78, dX5_read_80, dX5_read_83, dX5_read_85, dX5_read_87, dX5_read_90, dX5_read_91, dX5_read_94, dX5_read_96, dX5_read_98, dX5_read_99, dX5_read_101, dX5_read_103, dX5_read_104, dX5_read_105, dX5_read_106, dX5_read_109, dX5_read_112, dX5_read_114, dX5_read_116, dX5_read_117, dX5_read_118, dX5_read_121, dX5_read_124, dX5_read_127, dX5_read_128, dX5_read_130, dX5_read_132, dX5_read_134, dX5_read_137, dX5_read_138, dX5_read_141, dX5_read_143, dX5_read_144, dX5_read_145, dX5_read_147, dX5_read_148, dX5_read_149, dX5_read_150, dX5_read_152, dX5_read_153, dX5_read_154, dX5_read_156, dX5_read_157, dX5_read_158, dX5_read_159, dX5_read_160, dX5_read_161, dX5_read_164, dX5_read_165, dX5_read_168, dX5_read_171, dX5_read_172, dX5_read_175, dX5_read_178, dX5_read_179, dX5_read_181, dX5_read_184, dX5_read_186, FX5_41, FX5_207, FX5_10, FX5_213, G_X5_read_52, G_X5_read_210, G_X5_read_125, G_X5_read_129, G_X5_read_133, kd_0, kd_1, T1_cut, c3, a2, a3]
    repeat' (first | exact trivial | omega | (with_reducible assumption) | exact absurd trivial (by with_reducible assumption) | contradiction | apply And.intro | intro _)
  | succ m ih =>
    intro j hj ν hA
    have hA' := hA
    obtain ⟨a1, a2, a3, a4, a5⟩ := hA
    obtain ⟨o1, o2⟩ := hok j (by omega)
    obtain ⟨p1, p2, p3, p4⟩ := pN_ok hW h40 (a := a) (c := rI μ (48 + 2 * k)) j (fun b hb => (hok b (by omega)).2)
    unfold postOK at o2
    obtain ⟨i, ei⟩ := Int.eq_ofNat_of_zero_le o2.1.1
    have hz1 := fAt_z (fpr_z o1).1
    have hz2 := fAt_z (fpr_z o1).2
    have e35 := p2 35 (by omega) (by omega)
    have hi : (i : Int) < pN f a (rI μ (48 + 2 * k)) j 35 := by rw [e35]; omega
    have hq := (p1.2.2.2 i hi).2.1
    have h := ih (j + 1) (by omega) _ (hA'.st (by rw [e35]; exact h35.2) hi ei)
    rw [show ((j + 1 : Nat) : Int) = (j : Int) + 1 by omega] at h
    have c1 : ∀ y, rI ν (48 + 2 * k) y = rI μ (48 + 2 * k) y := a4 _ (by omega)
    have q1 : rI ν (rR ν 2 i) 1 = pN f a (rI μ (48 + 2 * k)) j (7 * i + 1) := a1.row hi (by omega)
    obtain ⟨k7, l40⟩ : kd (48 + 2 * k) = 7 ∧ ln (48 + 2 * k) = 40 := by have h := sheetk (shk k hk); rwa [show 47 + 2 * k + 1 = 48 + 2 * k by omega] at h
    have hr : 3 ≤ rR ν 2 i ∧ rR ν 2 i ≤ 7 := a1.1.1 i (by omega)
    have hRP := a1.1
    generalize hv2 : rI μ (48 + 2 * k) (a + 2 * j + 1).toNat = v2 at h o2
    apply hV [130] 40
    simp only [InR, InL, inb, Int.toNat_natCast, wp1, wpc_z, wpc_s, stp_iconst, stp_bipush, stp_sipush, stp_lconst, stp_iload_n, stp_iload, stp_lload_n, stp_lload, stp_aload_n, stp_aload, stp_istore_n, stp_istore, stp_lstore_n, stp_lstore, stp_astore_n, stp_astore, stp_iinc, stp_iadd, stp_isub, stp_imul, stp_ineg, stp_idiv, stp_irem, stp_ladd, stp_lmul, stp_ldiv, stp_lrem, stp_ishl, stp_ishr, stp_iushr, stp_iand, stp_ior, stp_i2l, stp_i2b, stp_i2s, stp_lcmp, stp_dup, stp_dup2, stp_pop, stp_ifCond, stp_if_icmp, stp_goto, stp_tableswitch, stp_lookupswitch, stp_ldc, stp_ldc_w, stp_ldc2_w, stp_getstatic, stp_getfield, stp_putfield, stp_iaload, stp_baload, stp_iastore, stp_bastore, stp_aaload, stp_aastore, stp_invokevirtual, stp_invokestatic, stp_ireturn, stp_lreturn, stp_return_, lg, lset, okl, spl, wd, c1, cnd, tg, swT, swL, f4_0, f4_1, f4_2, f4_3, f2_0, f2_1, List.mem_cons, List.not_mem_nil, List.length_cons, List.length_nil, List.cons_append, List.nil_append, Nat.reduceAdd, Nat.reduceMul, Nat.reduceLT, Nat.reduceEqDiff, Nat.reduceLeDiff, Int.reduceAdd, Int.reduceNeg, Int.reduceToNat, Int.cast_ofNat_Int, Int.reduceNatCast, Int.toNat_zero, Int.toNat_one, Int.reduceLE, Int.reduceLT, Int.reduceEq, Int.zero_add, Int.add_zero, or_false, false_or, or_true, true_or, and_true, true_and, and_false, false_and, reduceIte, not_true_eq_false, not_false_eq_true, forall_const, false_implies, true_implies, implies_true, ne_eq, reduceCtorEq, List.all_cons, List.all_nil, Bool.and_true, Bool.and_self, decide_eq_true_eq, decide_true, dX5_read_0, dX5_read_1, dX5_read_2, dX5_read_3, dX5_read_6, dX5_read_9, dX5_read_10, dX5_read_11, dX5_read_12, dX5_read_15, dX5_read_18, dX5_read_20, dX5_read_21, dX5_read_23, dX5_read_26, dX5_read_29, dX5_read_30, dX5_read_31, dX5_read_32, dX5_read_35, dX5_read_36, dX5_read_37, dX5_read_40, dX5_read_42, dX5_read_43, dX5_read_45, dX5_read_46, dX5_read_48, dX5_read_49, dX5_read_51, dX5_read_53, dX5_read_55, dX5_read_58, dX5_read_60, dX5_read_63, dX5_read_64, dX5_read_65, dX5_read_67, dX5_read_68, dX5_read_69, dX5_read_71, dX5_read_72, dX5_read_75, dX5_read_76, dX5_read_77, dX5_read_78, dX5_read_80, dX5_read_83, dX5_read_85, dX5_read_87, dX5_read_90, dX5_read_91, dX5_read_94, dX5_read_96, dX5_read_98, dX5_read_99, dX5_read_101, dX5_read_103, dX5_read_104, dX5_read_105, dX5_read_106, dX5_read_109, dX5_read_112, dX5_read_114, dX5_read_116, dX5_read_117, dX5_read_118, dX5_read_121, dX5_read_124, dX5_read_127, dX5_read_128, dX5_read_130, dX5_read_132, dX5_read_134, dX5_read_137, dX5_read_138, dX5_read_141, dX5_read_143, dX5_read_144, dX5_read_145, dX5_read_147, dX5_read_148, dX5_read_149, dX5_read_150, dX5_read_152, dX5_read_153, dX5_read_154, dX5_read_156, dX5_read_157, dX5_read_158, dX5_read_159, dX5_read_160, dX5_read_161, dX5_read_164, dX5_read_165, dX5_read_168, dX5_read_171, dX5_read_172, dX5_read_175, dX5_read_178, dX5_read_179, dX5_read_181, dX5_read_184, dX5_read_186, FX5_41, FX5_207, FX5_10, FX5_213, G_X5_read_52, G_X5_read_210, G_X5_read_125, G_X5_read_129, G_X5_read_133, kd_0, kd_1, T1_add, k7, l40, c1, ei, hv2, q1]
    repeat' (first | exact trivial | omega | (with_reducible assumption) | exact absurd trivial (by with_reducible assumption) | contradiction | apply And.intro | intro _)
set_option maxRecDepth 20000 in
set_option maxHeartbeats 4000000 in
theorem lp_rd1 (V : Nat → List (Option AV) → List AV → Mem → Prop) (K : List AV → Mem → Prop) (hV : Clos FX5 CX5 G_X5_read 1 K cX5_read V) (μ : Mem) (f : Nat → Int) (hR : RG μ 1 f) (hW : WF f) (h38 : f 38 ≤ 9999) (e39 : rI μ 1 5 = f 39) (e40 : rI μ 1 6 = f 40) (h39 : 0 ≤ f 39 ∧ f 39 ≤ 999999) (h40 : 0 ≤ f 40 ∧ f 40 ≤ 999999) (k : Nat) (hk : k < 4) (hc : ∀ y, y < 40 → InR (rI μ (48 + 2 * k) y)) (l a : Int) (hl : 0 ≤ l ∧ l ≤ 2) (ha : InR a) (h1 : -4 ≤ rI μ (47 + 2 * k) 1 ∧ rI μ (47 + 2 * k) 1 ≤ 2) (h2 : -4 ≤ rI μ (47 + 2 * k) 2 ∧ rI μ (47 + 2 * k) 2 ≤ 40) (N : Nat) (hN : N ≤ 20) (q : Int × Int) (hK1 : q.2 = -1 → K [.inl (-20 - q.1)] μ) (hK2 : q.2 ≠ -1 → ∀ ν, CSr μ ν (pN f a (rI μ (48 + 2 * k)) q.1.toNat) q.2 → K [.inl q.1] ν) : ∀ m j : Nat, j + m = N → rdW (rI μ (47 + 2 * k) 2) (rI μ (47 + 2 * k) 1) l a (rI μ (48 + 2 * k)) f m j = q → (∀ b, b < j → fpr (rI μ (47 + 2 * k) 2) (rI μ (47 + 2 * k) 1) l (a + 2 * b) = 0 ∧ postOK f (rI μ (48 + 2 * k) (a + 2 * b).toNat) (rI μ (48 + 2 * k) (a + 2 * b + 1).toNat)) → ∀ x9 : Option AV, V 51 [some (.inr (.inr 0)), some (.inl (k : Int)), some (.inl l), some (.inl a), some (.inl (N : Int)), some (.inr (.inr (48 + 2 * k))), some (.inl 0), some (.inl (j : Int)), some (.inl (j : Int)), x9] [] μ := by
  have h35 := hW.1
  simp only [InR] at ha hc
  have q3 := shk k hk
  obtain ⟨k7, l40⟩ : kd (48 + 2 * k) = 7 ∧ ln (48 + 2 * k) = 40 := by have h := sheetk q3; rwa [show 47 + 2 * k + 1 = 48 + 2 * k by omega] at h
  have r35 := hR.2.1
  have hfin : ∀ (w : Nat) (r : Int), w ≤ 20 → (-1 < r ∧ r ≤ 3) → q = ((w : Int), r) → (∀ b, b < w → fpr (rI μ (47 + 2 * k) 2) (rI μ (47 + 2 * k) 1) l (a + 2 * b) = 0 ∧ postOK f (rI μ (48 + 2 * k) (a + 2 * b).toNat) (rI μ (48 + 2 * k) (a + 2 * b + 1).toNat)) → ∀ x9 : Option AV, V 130 [some (.inr (.inr 0)), some (.inl (k : Int)), some (.inl l), some (.inl a), some (.inl (N : Int)), some (.inr (.inr (48 + 2 * k))), some (.inl r), some (.inl (w : Int)), some (.inl 0), x9] [] μ := by
    intro w r hw hr hq hok x9
    subst hq
    refine lp_rd2 V K hV μ f hW h38 e39 e40 h39 h40 k hk _ _ l a h2.2 N r w hw hok x9 (fun ν hν => hK2 (by simp only; omega) ν (by simpa using hν)) w 0 (by omega) μ ⟨hR, rfl, by simp [ovS], fun _ _ _ => rfl, fun _ _ => rfl⟩
  intro m
  induction m with
  | zero =>
    intro j hj hq hok x9
    have ej : j = N := by omega
    subst ej
    have kk := hfin j 0 hN (by omega) hq.symm hok x9
    apply hV [51, 130] 20
    simp only [InR, InL, inb, Int.toNat_natCast, wp1, wpc_z, wpc_s, stp_iconst, stp_bipush, stp_sipush, stp_lconst, stp_iload_n, stp_iload, stp_lload_n, stp_lload, stp_aload_n, stp_aload, stp_istore_n, stp_istore, stp_lstore_n, stp_lstore, stp_astore_n, stp_astore, stp_iinc, stp_iadd, stp_isub, stp_imul, stp_ineg, stp_idiv, stp_irem, stp_ladd, stp_lmul, stp_ldiv, stp_lrem, stp_ishl, stp_ishr, stp_iushr, stp_iand, stp_ior, stp_i2l, stp_i2b, stp_i2s, stp_lcmp, stp_dup, stp_dup2, stp_pop, stp_ifCond, stp_if_icmp, stp_goto, stp_tableswitch, stp_lookupswitch, stp_ldc, stp_ldc_w, stp_ldc2_w, stp_getstatic, stp_getfield, stp_putfield, stp_iaload, stp_baload, stp_iastore, stp_bastore, stp_aaload, stp_aastore, stp_invokevirtual, stp_invokestatic, stp_ireturn, stp_lreturn, stp_return_, lg, lset, okl, spl, wd, c1, cnd, tg, swT, swL, f4_0, f4_1, f4_2, f4_3, f2_0, f2_1, List.mem_cons, List.not_mem_nil, List.length_cons, List.length_nil, List.cons_append, List.nil_append, Nat.reduceAdd, Nat.reduceMul, Nat.reduceLT, Nat.reduceEqDiff, Nat.reduceLeDiff, Int.reduceAdd, Int.reduceNeg, Int.reduceToNat, Int.cast_ofNat_Int, Int.reduceNatCast, Int.toNat_zero, Int.toNat_one, Int.reduceLE, Int.reduceLT, Int.reduceEq, Int.zero_add, Int.add_zero, or_false, false_or, or_true, true_or, and_true, true_and, and_false, false_and, reduceIte, not_true_eq_false, not_false_eq_true, forall_const, false_implies, true_implies, implies_true, ne_eq, reduceCtorEq, List.all_cons, List.all_nil, Bool.and_true, Bool.and_self, decide_eq_true_eq, decide_true, dX5_read_0, dX5_read_1, dX5_read_2, dX5_read_3, dX5_read_6, dX5_read_9, dX5_read_10, dX5_read_11, dX5_read_12, dX5_read_15, dX5_read_18, dX5_read_20, dX5_read_21, dX5_read_23, dX5_read_26, dX5_read_29, dX5_read_30, dX5_read_31, dX5_read_32, dX5_read_35, dX5_read_36, dX5_read_37, dX5_read_40, dX5_read_42, dX5_read_43, dX5_read_45, dX5_read_46, dX5_read_48, dX5_read_49, dX5_read_51, dX5_read_53, dX5_read_55, dX5_read_58, dX5_read_60, dX5_read_63, dX5_read_64, dX5_read_65, dX5_read_67, dX5_read_68, dX5_read_69, dX5_read_71, dX5_read_72, dX5_read_75, dX5_read_76, dX5_read_77, dX5_read_78, dX5_read_80, dX5_read_83, dX5_read_85, dX5_read_87, dX5_read_90, dX5_read_91, dX5_read_94, dX5_read_96, dX5_read_98, dX5_read_99, dX5_read_101, dX5_read_103, dX5_read_104, dX5_read_105, dX5_read_106, dX5_read_109, dX5_read_112, dX5_read_114, dX5_read_116, dX5_read_117, dX5_read_118, dX5_read_121, dX5_read_124, dX5_read_127, dX5_read_128, dX5_read_130, dX5_read_132, dX5_read_134, dX5_read_137, dX5_read_138, dX5_read_141, dX5_read_143, dX5_read_144, dX5_read_145, dX5_read_147, dX5_read_148, dX5_read_149, dX5_read_150, dX5_read_152, dX5_read_153, dX5_read_154, dX5_read_156, dX5_read_157, dX5_read_158, dX5_read_159, dX5_read_160, dX5_read_161, dX5_read_164, dX5_read_165, dX5_read_168, dX5_read_171, dX5_read_172, dX5_read_175, dX5_read_178, dX5_read_179, dX5_read_181, dX5_read_184, dX5_read_186, FX5_41, FX5_207, FX5_10, FX5_213, G_X5_read_52, G_X5_read_210, G_X5_read_125, G_X5_read_129, G_X5_read_133]
    repeat' (first | exact trivial | omega | (with_reducible assumption) | exact absurd trivial (by with_reducible assumption) | contradiction | apply And.intro | intro _)
  | succ m ih =>
    intro j hj hq hok x9
    have hb : InR (a + 2 * (j : Int)) := by
      by_cases j0 : j = 0
      · subst j0; exact ⟨by omega, by omega⟩
      · have hz := fAt_z (fpr_z (hok (j - 1) (by omega)).1).1
        exact ⟨by omega, by omega⟩
    simp only [InR] at hb
    simp only [rdW] at hq
    have hf := fpr_in (rI μ (47 + 2 * k) 2) (rI μ (47 + 2 * k) 1) l (a + 2 * j)
    have kf : ∀ r, r = fpr (rI μ (47 + 2 * k) 2) (rI μ (47 + 2 * k) 1) l (a + 2 * j) → r ≠ 0 → V 51 [some (.inr (.inr 0)), some (.inl (k : Int)), some (.inl l), some (.inl a), some (.inl (N : Int)), some (.inr (.inr (48 + 2 * k))), some (.inl r), some (.inl (j : Int)), some (.inl ((j : Int) + 1)), some (.inl (a + 2 * (j : Int)))] [] μ := by
      intro r hr hr0
      rw [if_pos (by rw [← hr]; exact hr0), ← hr] at hq
      have h130 := hfin j r (by omega) (by omega) hq.symm hok (some (.inl (a + 2 * (j : Int))))
      rw [← hr] at hf
      clear hfin hok ih hK1 hK2
      apply hV [130] 20
      simp only [InR, InL, inb, Int.toNat_natCast, wp1, wpc_z, wpc_s, stp_iconst, stp_bipush, stp_sipush, stp_lconst, stp_iload_n, stp_iload, stp_lload_n, stp_lload, stp_aload_n, stp_aload, stp_istore_n, stp_istore, stp_lstore_n, stp_lstore, stp_astore_n, stp_astore, stp_iinc, stp_iadd, stp_isub, stp_imul, stp_ineg, stp_idiv, stp_irem, stp_ladd, stp_lmul, stp_ldiv, stp_lrem, stp_ishl, stp_ishr, stp_iushr, stp_iand, stp_ior, stp_i2l, stp_i2b, stp_i2s, stp_lcmp, stp_dup, stp_dup2, stp_pop, stp_ifCond, stp_if_icmp, stp_goto, stp_tableswitch, stp_lookupswitch, stp_ldc, stp_ldc_w, stp_ldc2_w, stp_getstatic, stp_getfield, stp_putfield, stp_iaload, stp_baload, stp_iastore, stp_bastore, stp_aaload, stp_aastore, stp_invokevirtual, stp_invokestatic, stp_ireturn, stp_lreturn, stp_return_, lg, lset, okl, spl, wd, c1, cnd, tg, swT, swL, f4_0, f4_1, f4_2, f4_3, f2_0, f2_1, List.mem_cons, List.not_mem_nil, List.length_cons, List.length_nil, List.cons_append, List.nil_append, Nat.reduceAdd, Nat.reduceMul, Nat.reduceLT, Nat.reduceEqDiff, Nat.reduceLeDiff, Int.reduceAdd, Int.reduceNeg, Int.reduceToNat, Int.cast_ofNat_Int, Int.reduceNatCast, Int.toNat_zero, Int.toNat_one, Int.reduceLE, Int.reduceLT, Int.reduceEq, Int.zero_add, Int.add_zero, or_false, false_or, or_true, true_or, and_true, true_and, and_false, false_and, reduceIte, not_true_eq_false, not_false_eq_true, forall_const, false_implies, true_implies, implies_true, ne_eq, reduceCtorEq, List.all_cons, List.all_nil, Bool.and_true, Bool.and_self, decide_eq_true_eq, decide_true, dX5_read_0, dX5_read_1, dX5_read_2, dX5_read_3, dX5_read_6, dX5_read_9, dX5_read_10, dX5_read_11, dX5_read_12, dX5_read_15, dX5_read_18, dX5_read_20, dX5_read_21, dX5_read_23, dX5_read_26, dX5_read_29, dX5_read_30, dX5_read_31, dX5_read_32, dX5_read_35, dX5_read_36, dX5_read_37, dX5_read_40, dX5_read_42, dX5_read_43, dX5_read_45, dX5_read_46, dX5_read_48, dX5_read_49, dX5_read_51, dX5_read_53, dX5_read_55, dX5_read_58, dX5_read_60, dX5_read_63, dX5_read_64, dX5_read_65, dX5_read_67, dX5_read_68, dX5_read_69, dX5_read_71, dX5_read_72, dX5_read_75, dX5_read_76, dX5_read_77, dX5_read_78, dX5_read_80, dX5_read_83, dX5_read_85, dX5_read_87, dX5_read_90, dX5_read_91, dX5_read_94, dX5_read_96, dX5_read_98, dX5_read_99, dX5_read_101, dX5_read_103, dX5_read_104, dX5_read_105, dX5_read_106, dX5_read_109, dX5_read_112, dX5_read_114, dX5_read_116, dX5_read_117, dX5_read_118, dX5_read_121, dX5_read_124, dX5_read_127, dX5_read_128, dX5_read_130, dX5_read_132, dX5_read_134, dX5_read_137, dX5_read_138, dX5_read_141, dX5_read_143, dX5_read_144, dX5_read_145, dX5_read_147, dX5_read_148, dX5_read_149, dX5_read_150, dX5_read_152, dX5_read_153, dX5_read_154, dX5_read_156, dX5_read_157, dX5_read_158, dX5_read_159, dX5_read_160, dX5_read_161, dX5_read_164, dX5_read_165, dX5_read_168, dX5_read_171, dX5_read_172, dX5_read_175, dX5_read_178, dX5_read_179, dX5_read_181, dX5_read_184, dX5_read_186, FX5_41, FX5_207, FX5_10, FX5_213, G_X5_read_52, G_X5_read_210, G_X5_read_125, G_X5_read_129, G_X5_read_133]
      repeat' (first | exact trivial | omega | (with_reducible assumption) | exact absurd trivial (by with_reducible assumption) | contradiction | apply And.intro | intro _)
    have kz : fpr (rI μ (47 + 2 * k) 2) (rI μ (47 + 2 * k) 1) l (a + 2 * j) = 0 → (postOK f (rI μ (48 + 2 * k) (a + 2 * j).toNat) (rI μ (48 + 2 * k) (a + 2 * j + 1).toNat) → V 51 [some (.inr (.inr 0)), some (.inl (k : Int)), some (.inl l), some (.inl a), some (.inl (N : Int)), some (.inr (.inr (48 + 2 * k))), some (.inl 0), some (.inl ((j : Int) + 1)), some (.inl ((j : Int) + 1)), some (.inl (a + 2 * (j : Int)))] [] μ) ∧ (¬ postOK f (rI μ (48 + 2 * k) (a + 2 * j).toNat) (rI μ (48 + 2 * k) (a + 2 * j + 1).toNat) → K [.inl (-20 - (j : Int))] μ) := by
      intro hz
      rw [if_neg (by simp [hz])] at hq
      refine ⟨fun z => ?_, fun z => ?_⟩
      · rw [if_pos ((pok_iff _ _ _).mpr z)] at hq
        have h := ih (j + 1) (by omega) hq (fun b hb => by
          by_cases e : b = j
          · subst e; exact ⟨hz, z⟩
          · exact hok b (by omega)) (some (.inl (a + 2 * (j : Int))))
        rw [show ((j + 1 : Nat) : Int) = (j : Int) + 1 by omega] at h
        exact h
      · rw [if_neg (fun y => z ((pok_iff _ _ _).mp y))] at hq
        subst hq
        exact hK1 rfl
    have kz1 := fun z => (kz z).1
    have kz2 := fun z => (kz z).2
    clear kz ih hfin
    have hin := fun z => fAt_z (s := rI μ (47 + 2 * k) 2) (n := rI μ (47 + 2 * k) 1) (l := l) (i := a + 2 * (j : Int)) z
    have hin2 := fun z => fAt_z (s := rI μ (47 + 2 * k) 2) (n := rI μ (47 + 2 * k) 1) (l := l) (i := a + 2 * (j : Int) + 1) z
    have g1 := fAt_in (rI μ (47 + 2 * k) 2) (rI μ (47 + 2 * k) 1) l (a + 2 * j)
    have g2 := fAt_in (rI μ (47 + 2 * k) 2) (rI μ (47 + 2 * k) 1) l (a + 2 * j + 1)
    apply hV [51, 130] 60
    simp only [InR, InL, inb, Int.toNat_natCast, wp1, wpc_z, wpc_s, stp_iconst, stp_bipush, stp_sipush, stp_lconst, stp_iload_n, stp_iload, stp_lload_n, stp_lload, stp_aload_n, stp_aload, stp_istore_n, stp_istore, stp_lstore_n, stp_lstore, stp_astore_n, stp_astore, stp_iinc, stp_iadd, stp_isub, stp_imul, stp_ineg, stp_idiv, stp_irem, stp_ladd, stp_lmul, stp_ldiv, stp_lrem, stp_ishl, stp_ishr, stp_iushr, stp_iand, stp_ior, stp_i2l, stp_i2b, stp_i2s, stp_lcmp, stp_dup, stp_dup2, stp_pop, stp_ifCond, stp_if_icmp, stp_goto, stp_tableswitch, stp_lookupswitch, stp_ldc, stp_ldc_w, stp_ldc2_w, stp_getstatic, stp_getfield, stp_putfield, stp_iaload, stp_baload, stp_iastore, stp_bastore, stp_aaload, stp_aastore, stp_invokevirtual, stp_invokestatic, stp_ireturn, stp_lreturn, stp_return_, lg, lset, okl, spl, wd, c1, cnd, tg, swT, swL, f4_0, f4_1, f4_2, f4_3, f2_0, f2_1, List.mem_cons, List.not_mem_nil, List.length_cons, List.length_nil, List.cons_append, List.nil_append, Nat.reduceAdd, Nat.reduceMul, Nat.reduceLT, Nat.reduceEqDiff, Nat.reduceLeDiff, Int.reduceAdd, Int.reduceNeg, Int.reduceToNat, Int.cast_ofNat_Int, Int.reduceNatCast, Int.toNat_zero, Int.toNat_one, Int.reduceLE, Int.reduceLT, Int.reduceEq, Int.zero_add, Int.add_zero, or_false, false_or, or_true, true_or, and_true, true_and, and_false, false_and, reduceIte, not_true_eq_false, not_false_eq_true, forall_const, false_implies, true_implies, implies_true, ne_eq, reduceCtorEq, List.all_cons, List.all_nil, Bool.and_true, Bool.and_self, decide_eq_true_eq, decide_true, dX5_read_0, dX5_read_1, dX5_read_2, dX5_read_3, dX5_read_6, dX5_read_9, dX5_read_10, dX5_read_11, dX5_read_12, dX5_read_15, dX5_read_18, dX5_read_20, dX5_read_21, dX5_read_23, dX5_read_26, dX5_read_29, dX5_read_30, dX5_read_31, dX5_read_32, dX5_read_35, dX5_read_36, dX5_read_37, dX5_read_40, dX5_read_42, dX5_read_43, dX5_read_45, dX5_read_46, dX5_read_48, dX5_read_49, dX5_read_51, dX5_read_53, dX5_read_55, dX5_read_58, dX5_read_60, dX5_read_63, dX5_read_64, dX5_read_65, dX5_read_67, dX5_read_68, dX5_read_69, dX5_read_71, dX5_read_72, dX5_read_75, dX5_read_76, dX5_read_77, dX5_read_78, dX5_read_80, dX5_read_83, dX5_read_85, dX5_read_87, dX5_read_90, dX5_read_91, dX5_read_94, dX5_read_96, dX5_read_98, dX5_read_99, dX5_read_101, dX5_read_103, dX5_read_104, dX5_read_105, dX5_read_106, dX5_read_109, dX5_read_112, dX5_read_114, dX5_read_116, dX5_read_117, dX5_read_118, dX5_read_121, dX5_read_124, dX5_read_127, dX5_read_128, dX5_read_130, dX5_read_132, dX5_read_134, dX5_read_137, dX5_read_138, dX5_read_141, dX5_read_143, dX5_read_144, dX5_read_145, dX5_read_147, dX5_read_148, dX5_read_149, dX5_read_150, dX5_read_152, dX5_read_153, dX5_read_154, dX5_read_156, dX5_read_157, dX5_read_158, dX5_read_159, dX5_read_160, dX5_read_161, dX5_read_164, dX5_read_165, dX5_read_168, dX5_read_171, dX5_read_172, dX5_read_175, dX5_read_178, dX5_read_179, dX5_read_181, dX5_read_184, dX5_read_186, FX5_41, FX5_207, FX5_10, FX5_213, G_X5_read_52, G_X5_read_210, G_X5_read_125, G_X5_read_129, G_X5_read_133, kd_0, kd_1, kd_46, ln_46, el_46, q3, k7, l40, T3_faultOfPair, T1_takes, r35]
    unfold fpr at kf kz1 kz2
    by_cases z : fAt (rI μ (47 + 2 * k) 2) (rI μ (47 + 2 * k) 1) l (a + 2 * (j : Int)) = 0
    · rw [if_neg (fun y => y z)] at kf kz1 kz2
      have i1 := hin z
      by_cases y : fAt (rI μ (47 + 2 * k) 2) (rI μ (47 + 2 * k) 1) l (a + 2 * (j : Int) + 1) = 0
      · have i2 := hin2 y
        have kz1 := kz1 y
        have kz2 := kz2 y
        have c1 := hc (a + 2 * (j : Int)).toNat (by omega)
        have c2 := hc (a + 2 * (j : Int) + 1).toNat (by omega)
        rw [y]
        unfold postOK at kz1 kz2
        clear kf
        repeat' (first | exact trivial | omega | (with_reducible assumption) | exact absurd trivial (by with_reducible assumption) | contradiction | apply And.intro | intro _)
        all_goals first | exact kz1 ⟨⟨by omega, by omega⟩, by omega, by omega⟩ | exact kz2 (by omega)
      · have kf := kf _ rfl y
        clear kz1 kz2
        repeat' (first | exact trivial | omega | (with_reducible assumption) | exact absurd trivial (by with_reducible assumption) | contradiction | apply And.intro | intro _)
    · rw [if_pos z] at kf kz1 kz2
      have kf := kf _ rfl z
      clear kz1 kz2
      repeat' (first | exact trivial | omega | (with_reducible assumption) | exact absurd trivial (by with_reducible assumption) | contradiction | apply And.intro | intro _)
def rdQ (s n l a : Int) (c f : Nat → Int) (N : Int) : Int × Int := rdW s n l a c f N.toNat 0
def rdOK (k l n : Int) : Prop := (0 ≤ k ∧ k ≤ 3) ∧ (0 ≤ l ∧ l ≤ 2) ∧ 0 ≤ n ∧ n ≤ 20
def T5_read : TT := fun a μ K => match a with
  | [.inr (.inr o), .inl k, .inl l, .inl a, .inl n] => o = 0 ∧ (InR k ∧ InR l ∧ InR a ∧ InR n ∧ (¬ rdOK k l n → K [.inl (-1)] μ) ∧ (rdOK k l n → ∃ f, RG μ 1 f ∧ WF f ∧ f 38 ≤ 9999 ∧ rI μ 1 5 = f 39 ∧ rI μ 1 6 = f 40 ∧ (0 ≤ f 39 ∧ f 39 ≤ 999999) ∧ (0 ≤ f 40 ∧ f 40 ≤ 999999) ∧ (∀ y, y < 40 → InR (rI μ (48 + 2 * k.toNat) y)) ∧ (-4 ≤ rI μ (47 + 2 * k.toNat) 1 ∧ rI μ (47 + 2 * k.toNat) 1 ≤ 2) ∧ (-4 ≤ rI μ (47 + 2 * k.toNat) 2 ∧ rI μ (47 + 2 * k.toNat) 2 ≤ 40) ∧ ∃ q, q = rdQ (rI μ (47 + 2 * k.toNat) 2) (rI μ (47 + 2 * k.toNat) 1) l a (rI μ (48 + 2 * k.toNat)) f n ∧ (q.2 = -1 → K [.inl (-20 - q.1)] μ) ∧ (q.2 ≠ -1 → ∀ ν, CSr μ ν (pN f a (rI μ (48 + 2 * k.toNat)) q.1.toNat) q.2 → K [.inl q.1] ν)))
  | _ => False
theorem rec_X5_read : ∀ a μ K, T5_read a μ K → ∃ k r, a = .inr (.inr k) :: r ∧ kd k = 5 := by
  intro a μ K h
  unfold T5_read at h
  split at h
  · exact ⟨_, _, rfl, by rw [h.1]; rfl⟩
  · exact h.elim
theorem gk_X5_read (l : Launch) : ∀ i n b T, G_X5_read i = some (n, b, T) → CallOK l 3 RX5 i n b T := by
  intro i n b T h
  have hm : (i, n, b, T) ∈ GL_X5_read := lk_mem h
  simp only [GL_X5_read, List.mem_cons, List.not_mem_nil, or_false, Prod.mk.injEq] at hm
  rcases hm with ⟨rfl, rfl, rfl, rfl⟩ | ⟨rfl, rfl, rfl, rfl⟩ | ⟨rfl, rfl, rfl, rfl⟩ | ⟨rfl, rfl, rfl, rfl⟩ | ⟨rfl, rfl, rfl, rfl⟩
  · exact CallOK.S (d := 3) (own := RX5) (i := 52) (n := 3) (good_X5_isOutside l) (by decide) (by decide) (mg 191 (by decide +kernel) (by decide +kernel)) (mg 192 (by decide +kernel) (by decide +kernel)) (mg 1 (by decide +kernel) (by decide +kernel)) (mg 193 (by decide +kernel) (by decide +kernel)) (by decide +kernel)
  · exact CallOK.V (d := 3) (own := RX5) (i := 210) (n := 2) (ci := 3) (good_X3_faultOfPair l) (by decide) (by decide) rfl (by decide) rec_X3_faultOfPair (mg 580 (by decide +kernel) (by decide +kernel)) (mg 581 (by decide +kernel) (by decide +kernel)) (mg 582 (by decide +kernel) (by decide +kernel)) (mg 6 (by decide +kernel) (by decide +kernel)) (mg 583 (by decide +kernel) (by decide +kernel)) (by decide +kernel)
  · exact CallOK.V (d := 3) (own := RX5) (i := 125) (n := 2) (ci := 1) (good_X1_takes l) (by decide) (by decide) rfl (by decide) rec_X1_takes (mg 366 (by decide +kernel) (by decide +kernel)) (mg 367 (by decide +kernel) (by decide +kernel)) (mg 368 (by decide +kernel) (by decide +kernel)) (mg 2 (by decide +kernel) (by decide +kernel)) (mg 369 (by decide +kernel) (by decide +kernel)) (by decide +kernel)
  · exact CallOK.V (d := 3) (own := RX5) (i := 129) (n := 2) (ci := 1) (good_X1_add l) (by decide) (by decide) rfl (by decide) rec_X1_add (mg 371 (by decide +kernel) (by decide +kernel)) (mg 372 (by decide +kernel) (by decide +kernel)) (mg 373 (by decide +kernel) (by decide +kernel)) (mg 2 (by decide +kernel) (by decide +kernel)) (mg 374 (by decide +kernel) (by decide +kernel)) (by decide +kernel)
  · exact CallOK.V (d := 3) (own := RX5) (i := 133) (n := 0) (ci := 1) (good_X1_cut l) (by decide) (by decide) rfl (by decide) rec_X1_cut (mg 375 (by decide +kernel) (by decide +kernel)) (mg 376 (by decide +kernel) (by decide +kernel)) (mg 377 (by decide +kernel) (by decide +kernel)) (mg 2 (by decide +kernel) (by decide +kernel)) (mg 378 (by decide +kernel) (by decide +kernel)) (by decide +kernel)
set_option maxRecDepth 20000 in
set_option maxHeartbeats 4000000 in
theorem body_X5_read (o : Nat) (k : Int) (l : Int) (a : Int) (n : Int) (μ : Mem) (K : List AV → Mem → Prop) (V : Nat → List (Option AV) → List AV → Mem → Prop) (hV : Clos FX5 CX5 G_X5_read 1 K cX5_read V) (hT : o = 0 ∧ (InR k ∧ InR l ∧ InR a ∧ InR n ∧ (¬ rdOK k l n → K [.inl (-1)] μ) ∧ (rdOK k l n → ∃ f, RG μ 1 f ∧ WF f ∧ f 38 ≤ 9999 ∧ rI μ 1 5 = f 39 ∧ rI μ 1 6 = f 40 ∧ (0 ≤ f 39 ∧ f 39 ≤ 999999) ∧ (0 ≤ f 40 ∧ f 40 ≤ 999999) ∧ (∀ y, y < 40 → InR (rI μ (48 + 2 * k.toNat) y)) ∧ (-4 ≤ rI μ (47 + 2 * k.toNat) 1 ∧ rI μ (47 + 2 * k.toNat) 1 ≤ 2) ∧ (-4 ≤ rI μ (47 + 2 * k.toNat) 2 ∧ rI μ (47 + 2 * k.toNat) 2 ≤ 40) ∧ ∃ q, q = rdQ (rI μ (47 + 2 * k.toNat) 2) (rI μ (47 + 2 * k.toNat) 1) l a (rI μ (48 + 2 * k.toNat)) f n ∧ (q.2 = -1 → K [.inl (-20 - q.1)] μ) ∧ (q.2 ≠ -1 → ∀ ν, CSr μ ν (pN f a (rI μ (48 + 2 * k.toNat)) q.1.toNat) q.2 → K [.inl q.1] ν)))) : V 0 [some (.inr (.inr o)), some (.inl k), some (.inl l), some (.inl a), some (.inl n), none, none, none, none, none] [] μ := by
  obtain ⟨rfl, hk, hl, ha, hn, hB, hK⟩ := hT
  have ha' := ha
  simp only [InR] at hk hl ha hn
  by_cases hc : rdOK k l n
  · obtain ⟨f, hR, hW, h38, e39, e40, h39, h40, hcc, h1, h2, q, hq, hK1, hK2⟩ := hK hc
    unfold rdOK at hc
    obtain ⟨k', rfl⟩ := Int.eq_ofNat_of_zero_le hc.1.1
    obtain ⟨n', rfl⟩ := Int.eq_ofNat_of_zero_le hc.2.2.1
    rw [Int.toNat_natCast] at hcc h1 h2 hq hK2
    unfold rdQ at hq
    rw [Int.toNat_natCast] at hq
    have h := lp_rd1 V K hV μ f hR hW h38 e39 e40 h39 h40 k' (by omega) hcc l a hc.2.1 ha' h1 h2 n' (by omega) q hK1 hK2 n' 0 (by omega) hq.symm (fun b hb => by omega) none
    have q3 := shk k' (by omega)
    have e48 : 47 + 2 * k' + 1 = 48 + 2 * k' := by omega
    apply hV [51] 40
    simp only [InR, InL, inb, Int.toNat_natCast, wp1, wpc_z, wpc_s, stp_iconst, stp_bipush, stp_sipush, stp_lconst, stp_iload_n, stp_iload, stp_lload_n, stp_lload, stp_aload_n, stp_aload, stp_istore_n, stp_istore, stp_lstore_n, stp_lstore, stp_astore_n, stp_astore, stp_iinc, stp_iadd, stp_isub, stp_imul, stp_ineg, stp_idiv, stp_irem, stp_ladd, stp_lmul, stp_ldiv, stp_lrem, stp_ishl, stp_ishr, stp_iushr, stp_iand, stp_ior, stp_i2l, stp_i2b, stp_i2s, stp_lcmp, stp_dup, stp_dup2, stp_pop, stp_ifCond, stp_if_icmp, stp_goto, stp_tableswitch, stp_lookupswitch, stp_ldc, stp_ldc_w, stp_ldc2_w, stp_getstatic, stp_getfield, stp_putfield, stp_iaload, stp_baload, stp_iastore, stp_bastore, stp_aaload, stp_aastore, stp_invokevirtual, stp_invokestatic, stp_ireturn, stp_lreturn, stp_return_, lg, lset, okl, spl, wd, c1, cnd, tg, swT, swL, f4_0, f4_1, f4_2, f4_3, f2_0, f2_1, List.mem_cons, List.not_mem_nil, List.length_cons, List.length_nil, List.cons_append, List.nil_append, Nat.reduceAdd, Nat.reduceMul, Nat.reduceLT, Nat.reduceEqDiff, Nat.reduceLeDiff, Int.reduceAdd, Int.reduceNeg, Int.reduceToNat, Int.cast_ofNat_Int, Int.reduceNatCast, Int.toNat_zero, Int.toNat_one, Int.reduceLE, Int.reduceLT, Int.reduceEq, Int.zero_add, Int.add_zero, or_false, false_or, or_true, true_or, and_true, true_and, and_false, false_and, reduceIte, not_true_eq_false, not_false_eq_true, forall_const, false_implies, true_implies, implies_true, ne_eq, reduceCtorEq, List.all_cons, List.all_nil, Bool.and_true, Bool.and_self, decide_eq_true_eq, decide_true, dX5_read_0, dX5_read_1, dX5_read_2, dX5_read_3, dX5_read_6, dX5_read_9, dX5_read_10, dX5_read_11, dX5_read_12, dX5_read_15, dX5_read_18, dX5_read_20, dX5_read_21, dX5_read_23, dX5_read_26, dX5_read_29, dX5_read_30, dX5_read_31, dX5_read_32, dX5_read_35, dX5_read_36, dX5_read_37, dX5_read_40, dX5_read_42, dX5_read_43, dX5_read_45, dX5_read_46, dX5_read_48, dX5_read_49, dX5_read_51, dX5_read_53, dX5_read_55, dX5_read_58, dX5_read_60, dX5_read_63, dX5_read_64, dX5_read_65, dX5_read_67, dX5_read_68, dX5_read_69, dX5_read_71, dX5_read_72, dX5_read_75, dX5_read_76, dX5_read_77, dX5_read_78, dX5_read_80, dX5_read_83, dX5_read_85, dX5_read_87, dX5_read_90, dX5_read_91, dX5_read_94, dX5_read_96, dX5_read_98, dX5_read_99, dX5_read_101, dX5_read_103, dX5_read_104, dX5_read_105, dX5_read_106, dX5_read_109, dX5_read_112, dX5_read_114, dX5_read_116, dX5_read_117, dX5_read_118, dX5_read_121, dX5_read_124, dX5_read_127, dX5_read_128, dX5_read_130, dX5_read_132, dX5_read_134, dX5_read_137, dX5_read_138, dX5_read_141, dX5_read_143, dX5_read_144, dX5_read_145, dX5_read_147, dX5_read_148, dX5_read_149, dX5_read_150, dX5_read_152, dX5_read_153, dX5_read_154, dX5_read_156, dX5_read_157, dX5_read_158, dX5_read_159, dX5_read_160, dX5_read_161, dX5_read_164, dX5_read_165, dX5_read_168, dX5_read_171, dX5_read_172, dX5_read_175, dX5_read_178, dX5_read_179, dX5_read_181, dX5_read_184, dX5_read_186, FX5_41, FX5_207, FX5_10, FX5_213, G_X5_read_52, G_X5_read_210, G_X5_read_125, G_X5_read_129, G_X5_read_133, kd_0, kd_46, ln_46, el_46, q3, e48, T5_isOutside]
    repeat' (first | exact trivial | omega | (with_reducible assumption) | exact absurd trivial (by with_reducible assumption) | contradiction | apply And.intro | intro _)
  · have hB := hB hc
    unfold rdOK at hc
    apply hV [31] 40
    simp only [InR, InL, inb, Int.toNat_natCast, wp1, wpc_z, wpc_s, stp_iconst, stp_bipush, stp_sipush, stp_lconst, stp_iload_n, stp_iload, stp_lload_n, stp_lload, stp_aload_n, stp_aload, stp_istore_n, stp_istore, stp_lstore_n, stp_lstore, stp_astore_n, stp_astore, stp_iinc, stp_iadd, stp_isub, stp_imul, stp_ineg, stp_idiv, stp_irem, stp_ladd, stp_lmul, stp_ldiv, stp_lrem, stp_ishl, stp_ishr, stp_iushr, stp_iand, stp_ior, stp_i2l, stp_i2b, stp_i2s, stp_lcmp, stp_dup, stp_dup2, stp_pop, stp_ifCond, stp_if_icmp, stp_goto, stp_tableswitch, stp_lookupswitch, stp_ldc, stp_ldc_w, stp_ldc2_w, stp_getstatic, stp_getfield, stp_putfield, stp_iaload, stp_baload, stp_iastore, stp_bastore, stp_aaload, stp_aastore, stp_invokevirtual, stp_invokestatic, stp_ireturn, stp_lreturn, stp_return_, lg, lset, okl, spl, wd, c1, cnd, tg, swT, swL, f4_0, f4_1, f4_2, f4_3, f2_0, f2_1, List.mem_cons, List.not_mem_nil, List.length_cons, List.length_nil, List.cons_append, List.nil_append, Nat.reduceAdd, Nat.reduceMul, Nat.reduceLT, Nat.reduceEqDiff, Nat.reduceLeDiff, Int.reduceAdd, Int.reduceNeg, Int.reduceToNat, Int.cast_ofNat_Int, Int.reduceNatCast, Int.toNat_zero, Int.toNat_one, Int.reduceLE, Int.reduceLT, Int.reduceEq, Int.zero_add, Int.add_zero, or_false, false_or, or_true, true_or, and_true, true_and, and_false, false_and, reduceIte, not_true_eq_false, not_false_eq_true, forall_const, false_implies, true_implies, implies_true, ne_eq, reduceCtorEq, List.all_cons, List.all_nil, Bool.and_true, Bool.and_self, decide_eq_true_eq, decide_true, dX5_read_0, dX5_read_1, dX5_read_2, dX5_read_3, dX5_read_6, dX5_read_9, dX5_read_10, dX5_read_11, dX5_read_12, dX5_read_15, dX5_read_18, dX5_read_20, dX5_read_21, dX5_read_23, dX5_read_26, dX5_read_29, dX5_read_30, dX5_read_31, dX5_read_32, dX5_read_35, dX5_read_36, dX5_read_37, dX5_read_40, dX5_read_42, dX5_read_43, dX5_read_45, dX5_read_46, dX5_read_48, dX5_read_49, dX5_read_51, dX5_read_53, dX5_read_55, dX5_read_58, dX5_read_60, dX5_read_63, dX5_read_64, dX5_read_65, dX5_read_67, dX5_read_68, dX5_read_69, dX5_read_71, dX5_read_72, dX5_read_75, dX5_read_76, dX5_read_77, dX5_read_78, dX5_read_80, dX5_read_83, dX5_read_85, dX5_read_87, dX5_read_90, dX5_read_91, dX5_read_94, dX5_read_96, dX5_read_98, dX5_read_99, dX5_read_101, dX5_read_103, dX5_read_104, dX5_read_105, dX5_read_106, dX5_read_109, dX5_read_112, dX5_read_114, dX5_read_116, dX5_read_117, dX5_read_118, dX5_read_121, dX5_read_124, dX5_read_127, dX5_read_128, dX5_read_130, dX5_read_132, dX5_read_134, dX5_read_137, dX5_read_138, dX5_read_141, dX5_read_143, dX5_read_144, dX5_read_145, dX5_read_147, dX5_read_148, dX5_read_149, dX5_read_150, dX5_read_152, dX5_read_153, dX5_read_154, dX5_read_156, dX5_read_157, dX5_read_158, dX5_read_159, dX5_read_160, dX5_read_161, dX5_read_164, dX5_read_165, dX5_read_168, dX5_read_171, dX5_read_172, dX5_read_175, dX5_read_178, dX5_read_179, dX5_read_181, dX5_read_184, dX5_read_186, FX5_41, FX5_207, FX5_10, FX5_213, G_X5_read_52, G_X5_read_210, G_X5_read_125, G_X5_read_129, G_X5_read_133, T5_isOutside]
    repeat' (first | exact trivial | omega | (with_reducible assumption) | exact absurd trivial (by with_reducible assumption) | contradiction | apply And.intro | intro _)
theorem good_X5_read (l : Launch) : Good l 3 yX5_read cX5_read 10 (some .int) T5_read := by
  refine Good.mk 1 (by decide) rfl (by simp [retOK]) FOK5 COK5 (gk_X5_read l) ?_ ?_
  · intro a μ K h
    unfold T5_read at h
    split at h
    · simp [entl]
    · exact h.elim
  · intro a μ K V hV h
    unfold T5_read at h
    split at h
    · exact body_X5_read _ _ _ _ _ μ K V hV h
    · exact h.elim

