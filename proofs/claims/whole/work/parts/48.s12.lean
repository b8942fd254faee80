/-! both: ask; Integer.bitCount -/
theorem dJ6_bitCount_0f7a4_0 : decode cJ6_bitCount_0f7a4 0 = .ok (.iload_n 0, 1) := by decide +kernel
theorem dJ6_bitCount_0f7a4_1 : decode cJ6_bitCount_0f7a4 1 = .ok (.iload_n 0, 1) := by decide +kernel
theorem dJ6_bitCount_0f7a4_2 : decode cJ6_bitCount_0f7a4 2 = .ok (.iconst 1, 1) := by decide +kernel
theorem dJ6_bitCount_0f7a4_3 : decode cJ6_bitCount_0f7a4 3 = .ok (.iushr, 1) := by decide +kernel
theorem dJ6_bitCount_0f7a4_4 : decode cJ6_bitCount_0f7a4 4 = .ok (.ldc_w 265, 3) := by decide +kernel
theorem dJ6_bitCount_0f7a4_7 : decode cJ6_bitCount_0f7a4 7 = .ok (.iand, 1) := by decide +kernel
theorem dJ6_bitCount_0f7a4_8 : decode cJ6_bitCount_0f7a4 8 = .ok (.isub, 1) := by decide +kernel
theorem dJ6_bitCount_0f7a4_9 : decode cJ6_bitCount_0f7a4 9 = .ok (.istore_n 0, 1) := by decide +kernel
theorem dJ6_bitCount_0f7a4_10 : decode cJ6_bitCount_0f7a4 10 = .ok (.iload_n 0, 1) := by decide +kernel
theorem dJ6_bitCount_0f7a4_11 : decode cJ6_bitCount_0f7a4 11 = .ok (.ldc_w 266, 3) := by decide +kernel
theorem dJ6_bitCount_0f7a4_14 : decode cJ6_bitCount_0f7a4 14 = .ok (.iand, 1) := by decide +kernel
theorem dJ6_bitCount_0f7a4_15 : decode cJ6_bitCount_0f7a4 15 = .ok (.iload_n 0, 1) := by decide +kernel
theorem dJ6_bitCount_0f7a4_16 : decode cJ6_bitCount_0f7a4 16 = .ok (.iconst 2, 1) := by decide +kernel
theorem dJ6_bitCount_0f7a4_17 : decode cJ6_bitCount_0f7a4 17 = .ok (.iushr, 1) := by decide +kernel
theorem dJ6_bitCount_0f7a4_18 : decode cJ6_bitCount_0f7a4 18 = .ok (.ldc_w 266, 3) := by decide +kernel
theorem dJ6_bitCount_0f7a4_21 : decode cJ6_bitCount_0f7a4 21 = .ok (.iand, 1) := by decide +kernel
theorem dJ6_bitCount_0f7a4_22 : decode cJ6_bitCount_0f7a4 22 = .ok (.iadd, 1) := by decide +kernel
theorem dJ6_bitCount_0f7a4_23 : decode cJ6_bitCount_0f7a4 23 = .ok (.istore_n 0, 1) := by decide +kernel
theorem dJ6_bitCount_0f7a4_24 : decode cJ6_bitCount_0f7a4 24 = .ok (.iload_n 0, 1) := by decide +kernel
theorem dJ6_bitCount_0f7a4_25 : decode cJ6_bitCount_0f7a4 25 = .ok (.iload_n 0, 1) := by decide +kernel
theorem dJ6_bitCount_0f7a4_26 : decode cJ6_bitCount_0f7a4 26 = .ok (.iconst 4, 1) := by decide +kernel
theorem dJ6_bitCount_0f7a4_27 : decode cJ6_bitCount_0f7a4 27 = .ok (.iushr, 1) := by decide +kernel
theorem dJ6_bitCount_0f7a4_28 : decode cJ6_bitCount_0f7a4 28 = .ok (.iadd, 1) := by decide +kernel
theorem dJ6_bitCount_0f7a4_29 : decode cJ6_bitCount_0f7a4 29 = .ok (.ldc_w 267, 3) := by decide +kernel
theorem dJ6_bitCount_0f7a4_32 : decode cJ6_bitCount_0f7a4 32 = .ok (.iand, 1) := by decide +kernel
theorem dJ6_bitCount_0f7a4_33 : decode cJ6_bitCount_0f7a4 33 = .ok (.istore_n 0, 1) := by decide +kernel
theorem dJ6_bitCount_0f7a4_34 : decode cJ6_bitCount_0f7a4 34 = .ok (.iload_n 0, 1) := by decide +kernel
theorem dJ6_bitCount_0f7a4_35 : decode cJ6_bitCount_0f7a4 35 = .ok (.iload_n 0, 1) := by decide +kernel
theorem dJ6_bitCount_0f7a4_36 : decode cJ6_bitCount_0f7a4 36 = .ok (.bipush 8, 2) := by decide +kernel
theorem dJ6_bitCount_0f7a4_38 : decode cJ6_bitCount_0f7a4 38 = .ok (.iushr, 1) := by decide +kernel
theorem dJ6_bitCount_0f7a4_39 : decode cJ6_bitCount_0f7a4 39 = .ok (.iadd, 1) := by decide +kernel
theorem dJ6_bitCount_0f7a4_40 : decode cJ6_bitCount_0f7a4 40 = .ok (.istore_n 0, 1) := by decide +kernel
theorem dJ6_bitCount_0f7a4_41 : decode cJ6_bitCount_0f7a4 41 = .ok (.iload_n 0, 1) := by decide +kernel
theorem dJ6_bitCount_0f7a4_42 : decode cJ6_bitCount_0f7a4 42 = .ok (.iload_n 0, 1) := by decide +kernel
theorem dJ6_bitCount_0f7a4_43 : decode cJ6_bitCount_0f7a4 43 = .ok (.bipush 16, 2) := by decide +kernel
theorem dJ6_bitCount_0f7a4_45 : decode cJ6_bitCount_0f7a4 45 = .ok (.iushr, 1) := by decide +kernel
theorem dJ6_bitCount_0f7a4_46 : decode cJ6_bitCount_0f7a4 46 = .ok (.iadd, 1) := by decide +kernel
theorem dJ6_bitCount_0f7a4_47 : decode cJ6_bitCount_0f7a4 47 = .ok (.istore_n 0, 1) := by decide +kernel
theorem dJ6_bitCount_0f7a4_48 : decode cJ6_bitCount_0f7a4 48 = .ok (.iload_n 0, 1) := by decide +kernel
theorem dJ6_bitCount_0f7a4_49 : decode cJ6_bitCount_0f7a4 49 = .ok (.bipush 63, 2) := by decide +kernel
theorem dJ6_bitCount_0f7a4_51 : decode cJ6_bitCount_0f7a4 51 = .ok (.iand, 1) := by decide +kernel
theorem dJ6_bitCount_0f7a4_52 : decode cJ6_bitCount_0f7a4 52 = .ok (.ireturn, 1) := by decide +kernel
def CLJ : List (Nat × AV) := [(265, .inl 1431655765), (266, .inl 858993459), (267, .inl 252645135)]
def CXJ : Nat → Option AV := fun i => CLJ.lookup i
theorem CXJ_265 : CXJ 265 = some (.inl 1431655765) := rfl
theorem CXJ_266 : CXJ 266 = some (.inl 858993459) := rfl
theorem CXJ_267 : CXJ 267 = some (.inl 252645135) := rfl
theorem COKJ : ∀ i v, CXJ i = some v → COK RJ6 i v := by
  intro i q h
  have hm : (i, q) ∈ CLJ := lk_mem h
  simp only [CLJ, List.mem_cons, List.not_mem_nil, or_false, Prod.mk.injEq] at hm
  rcases hm with ⟨rfl, rfl⟩ | ⟨rfl, rfl⟩ | ⟨rfl, rfl⟩
  · exact (mg 526 (by decide +kernel) (by decide +kernel))
  · exact (mg 527 (by decide +kernel) (by decide +kernel))
  · exact (mg 528 (by decide +kernel) (by decide +kernel))
def FXJ : Nat → Option (Nat × Nat × Nat × Nat) := fun _ => none
def GXJ : Nat → Option (Nat × Bool × TT) := fun _ => none
def bc1 (x : Nat) : Nat := x - (x / 2 &&& 1431655765)
def bc2 (x : Nat) : Nat := (x &&& 858993459) + (x / 4 &&& 858993459)
def bc3 (x : Nat) : Nat := (x + x / 16) &&& 252645135
def bc4 (x : Nat) : Nat := x + x / 256
def bc5 (x : Nat) : Nat := x + x / 65536
def bcN (x : Nat) : Nat := bc5 (bc4 (bc3 (bc2 (bc1 x)))) &&& 63
/-- how many of the lowest k bits are set -/
def pcN (x : Nat) : Nat → Nat
  | 0 => 0
  | k + 1 => pcN x k + x / 2 ^ k % 2
theorem bc_pc : ∀ x, x < 1024 → bcN x = pcN x 10 := by decide +kernel
def T_bit : TT := fun a μ K => match a with
  | [.inl x] => ∃ n : Nat, x = n ∧ n < 1024 ∧ K [.inl ((pcN n 10 : Nat) : Int)] μ
  | _ => False
theorem sh_c {x k : Nat} (hx : x < 2147483648) : (x : Int) % 4294967296 / 2 ^ k = ((x / 2 ^ k : Nat) : Int) := by
  rw [Int.emod_eq_of_lt (by omega) (by omega), p2_c]
  exact (Int.natCast_ediv x (2 ^ k)).symm
theorem t_bc0 : (2 : Nat) ^ 1 = 2 ∧ (2 : Nat) ^ 2 = 4 ∧ (2 : Nat) ^ 4 = 16 ∧ (2 : Nat) ^ 8 = 256 ∧ (2 : Nat) ^ 16 = 65536 := by decide
theorem t_bc6 (V : Nat → List (Option AV) → List AV → Mem → Prop) (K : List AV → Mem → Prop) (hV : Clos FXJ CXJ GXJ 1 K cJ6_bitCount_0f7a4 V) (μ : Mem) (x : Nat) (hx : x < 100000) (hK : K [.inl ((x &&& 63 : Nat) : Int)] μ) : V 48 [some (.inl (x : Int))] [] μ := by
  apply hV [] 20
  simp only [InR, InL, inb, Int.toNat_natCast, wp1, wpc_z, wpc_s, stp_iconst, stp_bipush, stp_sipush, stp_lconst, stp_iload_n, stp_iload, stp_lload_n, stp_lload, stp_aload_n, stp_aload, stp_istore_n, stp_istore, stp_lstore_n, stp_lstore, stp_astore_n, stp_astore, stp_iinc, stp_iadd, stp_isub, stp_imul, stp_ineg, stp_idiv, stp_irem, stp_ladd, stp_lmul, stp_ldiv, stp_lrem, stp_ishl, stp_ishr, stp_iushr, stp_iand, stp_ior, stp_i2l, stp_i2b, stp_i2s, stp_lcmp, stp_dup, stp_dup2, stp_pop, stp_ifCond, stp_if_icmp, stp_goto, stp_tableswitch, stp_lookupswitch, stp_ldc, stp_ldc_w, stp_ldc2_w, stp_getstatic, stp_getfield, stp_putfield, stp_iaload, stp_baload, stp_iastore, stp_bastore, stp_aaload, stp_aastore, stp_invokevirtual, stp_invokestatic, stp_ireturn, stp_lreturn, stp_return_, lg, lset, okl, spl, wd, c1, cnd, tg, swT, swL, f4_0, f4_1, f4_2, f4_3, f2_0, f2_1, List.mem_cons, List.not_mem_nil, List.length_cons, List.length_nil, List.cons_append, List.nil_append, Nat.reduceAdd, Nat.reduceMul, Nat.reduceLT, Nat.reduceEqDiff, Nat.reduceLeDiff, Int.reduceAdd, Int.reduceNeg, Int.reduceToNat, Int.cast_ofNat_Int, Int.reduceNatCast, Int.toNat_zero, Int.toNat_one, Int.reduceLE, Int.reduceLT, Int.reduceEq, Int.zero_add, Int.add_zero, or_false, false_or, or_true, true_or, and_true, true_and, and_false, false_and, reduceIte, not_true_eq_false, not_false_eq_true, forall_const, false_implies, true_implies, implies_true, ne_eq, reduceCtorEq, List.all_cons, List.all_nil, Bool.and_true, Bool.and_self, decide_eq_true_eq, decide_true, dJ6_bitCount_0f7a4_0, dJ6_bitCount_0f7a4_1, dJ6_bitCount_0f7a4_2, dJ6_bitCount_0f7a4_3, dJ6_bitCount_0f7a4_4, dJ6_bitCount_0f7a4_7, dJ6_bitCount_0f7a4_8, dJ6_bitCount_0f7a4_9, dJ6_bitCount_0f7a4_10, dJ6_bitCount_0f7a4_11, dJ6_bitCount_0f7a4_14, dJ6_bitCount_0f7a4_15, dJ6_bitCount_0f7a4_16, dJ6_bitCount_0f7a4_17, dJ6_bitCount_0f7a4_18, dJ6_bitCount_0f7a4_21, dJ6_bitCount_0f7a4_22, dJ6_bitCount_0f7a4_23, dJ6_bitCount_0f7a4_24, dJ6_bitCount_0f7a4_25, dJ6_bitCount_0f7a4_26, dJ6_bitCount_0f7a4_27, dJ6_bitCount_0f7a4_28, dJ6_bitCount_0f7a4_29, dJ6_bitCount_0f7a4_32, dJ6_bitCount_0f7a4_33, dJ6_bitCount_0f7a4_34, dJ6_bitCount_0f7a4_35, dJ6_bitCount_0f7a4_36, dJ6_bitCount_0f7a4_38, dJ6_bitCount_0f7a4_39, dJ6_bitCount_0f7a4_40, dJ6_bitCount_0f7a4_41, dJ6_bitCount_0f7a4_42, dJ6_bitCount_0f7a4_43, dJ6_bitCount_0f7a4_45, dJ6_bitCount_0f7a4_46, dJ6_bitCount_0f7a4_47, dJ6_bitCount_0f7a4_48, dJ6_bitCount_0f7a4_49, dJ6_bitCount_0f7a4_51, dJ6_bitCount_0f7a4_52]
  repeat' (first | exact trivial | omega | (with_reducible assumption) | exact absurd trivial (by with_reducible assumption) | contradiction | apply And.intro | intro _)
theorem t_bc5 (V : Nat → List (Option AV) → List AV → Mem → Prop) (K : List AV → Mem → Prop) (hV : Clos FXJ CXJ GXJ 1 K cJ6_bitCount_0f7a4 V) (μ : Mem) (x : Nat) (hx : x < 100000) (h : V 48 [some (.inl (bc5 x : Int))] [] μ) : V 41 [some (.inl (x : Int))] [] μ := by
  have e1 := sh_c (x := x) (k := 16) (by omega)
  unfold bc5 at h
  rw [Int.natCast_add] at h
  apply hV [48] 20
  simp only [InR, InL, inb, Int.toNat_natCast, wp1, wpc_z, wpc_s, stp_iconst, stp_bipush, stp_sipush, stp_lconst, stp_iload_n, stp_iload, stp_lload_n, stp_lload, stp_aload_n, stp_aload, stp_istore_n, stp_istore, stp_lstore_n, stp_lstore, stp_astore_n, stp_astore, stp_iinc, stp_iadd, stp_isub, stp_imul, stp_ineg, stp_idiv, stp_irem, stp_ladd, stp_lmul, stp_ldiv, stp_lrem, stp_ishl, stp_ishr, stp_iushr, stp_iand, stp_ior, stp_i2l, stp_i2b, stp_i2s, stp_lcmp, stp_dup, stp_dup2, stp_pop, stp_ifCond, stp_if_icmp, stp_goto, stp_tableswitch, stp_lookupswitch, stp_ldc, stp_ldc_w, stp_ldc2_w, stp_getstatic, stp_getfield, stp_putfield, stp_iaload, stp_baload, stp_iastore, stp_bastore, stp_aaload, stp_aastore, stp_invokevirtual, stp_invokestatic, stp_ireturn, stp_lreturn, stp_return_, lg, lset, okl, spl, wd, c1, cnd, tg, swT, swL, f4_0, f4_1, f4_2, f4_3, f2_0, f2_1, List.mem_cons, List.not_mem_nil, List.length_cons, List.length_nil, List.cons_append, List.nil_append, Nat.reduceAdd, Nat.reduceMul, Nat.reduceLT, Nat.reduceEqDiff, Nat.reduceLeDiff, Int.reduceAdd, Int.reduceNeg, Int.reduceToNat, Int.cast_ofNat_Int, Int.reduceNatCast, Int.toNat_zero, Int.toNat_one, Int.reduceLE, Int.reduceLT, Int.reduceEq, Int.zero_add, Int.add_zero, or_false, false_or, or_true, true_or, and_true, true_and, and_false, false_and, reduceIte, not_true_eq_false, not_false_eq_true, forall_const, false_implies, true_implies, implies_true, ne_eq, reduceCtorEq, List.all_cons, List.all_nil, Bool.and_true, Bool.and_self, decide_eq_true_eq, decide_true, dJ6_bitCount_0f7a4_0, dJ6_bitCount_0f7a4_1, dJ6_bitCount_0f7a4_2, dJ6_bitCount_0f7a4_3, dJ6_bitCount_0f7a4_4, dJ6_bitCount_0f7a4_7, dJ6_bitCount_0f7a4_8, dJ6_bitCount_0f7a4_9, dJ6_bitCount_0f7a4_10, dJ6_bitCount_0f7a4_11, dJ6_bitCount_0f7a4_14, dJ6_bitCount_0f7a4_15, dJ6_bitCount_0f7a4_16, dJ6_bitCount_0f7a4_17, dJ6_bitCount_0f7a4_18, dJ6_bitCount_0f7a4_21, dJ6_bitCount_0f7a4_22, dJ6_bitCount_0f7a4_23, dJ6_bitCount_0f7a4_24, dJ6_bitCount_0f7a4_25, dJ6_bitCount_0f7a4_26, dJ6_bitCount_0f7a4_27, dJ6_bitCount_0f7a4_28, dJ6_bitCount_0f7a4_29, dJ6_bitCount_0f7a4_32, dJ6_bitCount_0f7a4_33, dJ6_bitCount_0f7a4_34, dJ6_bitCount_0f7a4_35, dJ6_bitCount_0f7a4_36, dJ6_bitCount_0f7a4_38, dJ6_bitCount_0f7a4_39, dJ6_bitCount_0f7a4_40, dJ6_bitCount_0f7a4_41, dJ6_bitCount_0f7a4_42, dJ6_bitCount_0f7a4_43, dJ6_bitCount_0f7a4_45, dJ6_bitCount_0f7a4_46, dJ6_bitCount_0f7a4_47, dJ6_bitCount_0f7a4_48, dJ6_bitCount_0f7a4_49, dJ6_bitCount_0f7a4_51, dJ6_bitCount_0f7a4_52, e1, t_bc0.2.2.2.2]
  repeat' (first | exact trivial | omega | (with_reducible assumption) | exact absurd trivial (by with_reducible assumption) | contradiction | apply And.intro | intro _)
theorem t_bc4 (V : Nat → List (Option AV) → List AV → Mem → Prop) (K : List AV → Mem → Prop) (hV : Clos FXJ CXJ GXJ 1 K cJ6_bitCount_0f7a4 V) (μ : Mem) (x : Nat) (hx : x < 100000) (h : V 41 [some (.inl (bc4 x : Int))] [] μ) : V 34 [some (.inl (x : Int))] [] μ := by
  have e1 := sh_c (x := x) (k := 8) (by omega)
  unfold bc4 at h
  rw [Int.natCast_add] at h
  apply hV [41] 20
  simp only [InR, InL, inb, Int.toNat_natCast, wp1, wpc_z, wpc_s, stp_iconst, stp_bipush, stp_sipush, stp_lconst, stp_iload_n, stp_iload, stp_lload_n, stp_lload, stp_aload_n, stp_aload, stp_istore_n, stp_istore, stp_lstore_n, stp_lstore, stp_astore_n, stp_astore, stp_iinc, stp_iadd, stp_isub, stp_imul, stp_ineg, stp_idiv, stp_irem, stp_ladd, stp_lmul, stp_ldiv, stp_lrem, stp_ishl, stp_ishr, stp_iushr, stp_iand, stp_ior, stp_i2l, stp_i2b, stp_i2s, stp_lcmp, stp_dup, stp_dup2, stp_pop, stp_ifCond, stp_if_icmp, stp_goto, stp_tableswitch, stp_lookupswitch, stp_ldc, stp_ldc_w, stp_ldc2_w, stp_getstatic, stp_getfield, stp_putfield, stp_iaload, stp_baload, stp_iastore, stp_bastore, stp_aaload, stp_aastore, stp_invokevirtual, stp_invokestatic, stp_ireturn, stp_lreturn, stp_return_, lg, lset, okl, spl, wd, c1, cnd, tg, swT, swL, f4_0, f4_1, f4_2, f4_3, f2_0, f2_1, List.mem_cons, List.not_mem_nil, List.length_cons, List.length_nil, List.cons_append, List.nil_append, Nat.reduceAdd, Nat.reduceMul, Nat.reduceLT, Nat.reduceEqDiff, Nat.reduceLeDiff, Int.reduceAdd, Int.reduceNeg, Int.reduceToNat, Int.cast_ofNat_Int, Int.reduceNatCast, Int.toNat_zero, Int.toNat_one, Int.reduceLE, Int.reduceLT, Int.reduceEq, Int.zero_add, Int.add_zero, or_false, false_or, or_true, true_or, and_true, true_and, and_false, false_and, reduceIte, not_true_eq_false, not_false_eq_true, forall_const, false_implies, true_implies, implies_true, ne_eq, reduceCtorEq, List.all_cons, List.all_nil, Bool.and_true, Bool.and_self, decide_eq_true_eq, decide_true, dJ6_bitCount_0f7a4_0, dJ6_bitCount_0f7a4_1, dJ6_bitCount_0f7a4_2, dJ6_bitCount_0f7a4_3, dJ6_bitCount_0f7a4_4, dJ6_bitCount_0f7a4_7, dJ6_bitCount_0f7a4_8, dJ6_bitCount_0f7a4_9, dJ6_bitCount_0f7a4_10, dJ6_bitCount_0f7a4_11, dJ6_bitCount_0f7a4_14, dJ6_bitCount_0f7a4_15, dJ6_bitCount_0f7a4_16, dJ6_bitCount_0f7a4_17, dJ6_bitCount_0f7a4_18, dJ6_bitCount_0f7a4_21, dJ6_bitCount_0f7a4_22, dJ6_bitCount_0f7a4_23, dJ6_bitCount_0f7a4_24, dJ6_bitCount_0f7a4_25, dJ6_bitCount_0f7a4_26, dJ6_bitCount_0f7a4_27, dJ6_bitCount_0f7a4_28, dJ6_bitCount_0f7a4_29, dJ6_bitCount_0f7a4_32, dJ6_bitCount_0f7a4_33, dJ6_bitCount_0f7a4_34, dJ6_bitCount_0f7a4_35, dJ6_bitCount_0f7a4_36, dJ6_bitCount_0f7a4_38, dJ6_bitCount_0f7a4_39, dJ6_bitCount_0f7a4_40, dJ6_bitCount_0f7a4_41, dJ6_bitCount_0f7a4_42, dJ6_bitCount_0f7a4_43, dJ6_bitCount_0f7a4_45, dJ6_bitCount_0f7a4_46, dJ6_bitCount_0f7a4_47, dJ6_bitCount_0f7a4_48, dJ6_bitCount_0f7a4_49, dJ6_bitCount_0f7a4_51, dJ6_bitCount_0f7a4_52, e1, t_bc0.2.2.2.1]
  repeat' (first | exact trivial | omega | (with_reducible assumption) | exact absurd trivial (by with_reducible assumption) | contradiction | apply And.intro | intro _)
theorem t_bc3 (V : Nat → List (Option AV) → List AV → Mem → Prop) (K : List AV → Mem → Prop) (hV : Clos FXJ CXJ GXJ 1 K cJ6_bitCount_0f7a4 V) (μ : Mem) (x : Nat) (hx : x < 100000) (h : V 34 [some (.inl (bc3 x : Int))] [] μ) : V 24 [some (.inl (x : Int))] [] μ := by
  have e1 := sh_c (x := x) (k := 4) (by omega)
  have e2 : ((x : Int) + ((x / 16 : Nat) : Int)) = ((x + x / 16 : Nat) : Int) := (Int.natCast_add _ _).symm
  unfold bc3 at h
  apply hV [34] 20
  simp only [InR, InL, inb, Int.toNat_natCast, wp1, wpc_z, wpc_s, stp_iconst, stp_bipush, stp_sipush, stp_lconst, stp_iload_n, stp_iload, stp_lload_n, stp_lload, stp_aload_n, stp_aload, stp_istore_n, stp_istore, stp_lstore_n, stp_lstore, stp_astore_n, stp_astore, stp_iinc, stp_iadd, stp_isub, stp_imul, stp_ineg, stp_idiv, stp_irem, stp_ladd, stp_lmul, stp_ldiv, stp_lrem, stp_ishl, stp_ishr, stp_iushr, stp_iand, stp_ior, stp_i2l, stp_i2b, stp_i2s, stp_lcmp, stp_dup, stp_dup2, stp_pop, stp_ifCond, stp_if_icmp, stp_goto, stp_tableswitch, stp_lookupswitch, stp_ldc, stp_ldc_w, stp_ldc2_w, stp_getstatic, stp_getfield, stp_putfield, stp_iaload, stp_baload, stp_iastore, stp_bastore, stp_aaload, stp_aastore, stp_invokevirtual, stp_invokestatic, stp_ireturn, stp_lreturn, stp_return_, lg, lset, okl, spl, wd, c1, cnd, tg, swT, swL, f4_0, f4_1, f4_2, f4_3, f2_0, f2_1, List.mem_cons, List.not_mem_nil, List.length_cons, List.length_nil, List.cons_append, List.nil_append, Nat.reduceAdd, Nat.reduceMul, Nat.reduceLT, Nat.reduceEqDiff, Nat.reduceLeDiff, Int.reduceAdd, Int.reduceNeg, Int.reduceToNat, Int.cast_ofNat_Int, Int.reduceNatCast, Int.toNat_zero, Int.toNat_one, Int.reduceLE, Int.reduceLT, Int.reduceEq, Int.zero_add, Int.add_zero, or_false, false_or, or_true, true_or, and_true, true_and, and_false, false_and, reduceIte, not_true_eq_false, not_false_eq_true, forall_const, false_implies, true_implies, implies_true, ne_eq, reduceCtorEq, List.all_cons, List.all_nil, Bool.and_true, Bool.and_self, decide_eq_true_eq, decide_true, dJ6_bitCount_0f7a4_0, dJ6_bitCount_0f7a4_1, dJ6_bitCount_0f7a4_2, dJ6_bitCount_0f7a4_3, dJ6_bitCount_0f7a4_4, dJ6_bitCount_0f7a4_7, dJ6_bitCount_0f7a4_8, dJ6_bitCount_0f7a4_9, dJ6_bitCount_0f7a4_10, dJ6_bitCount_0f7a4_11, dJ6_bitCount_0f7a4_14, dJ6_bitCount_0f7a4_15, dJ6_bitCount_0f7a4_16, dJ6_bitCount_0f7a4_17, dJ6_bitCount_0f7a4_18, dJ6_bitCount_0f7a4_21, dJ6_bitCount_0f7a4_22, dJ6_bitCount_0f7a4_23, dJ6_bitCount_0f7a4_24, dJ6_bitCount_0f7a4_25, dJ6_bitCount_0f7a4_26, dJ6_bitCount_0f7a4_27, dJ6_bitCount_0f7a4_28, dJ6_bitCount_0f7a4_29, dJ6_bitCount_0f7a4_32, dJ6_bitCount_0f7a4_33, dJ6_bitCount_0f7a4_34, dJ6_bitCount_0f7a4_35, dJ6_bitCount_0f7a4_36, dJ6_bitCount_0f7a4_38, dJ6_bitCount_0f7a4_39, dJ6_bitCount_0f7a4_40, dJ6_bitCount_0f7a4_41, dJ6_bitCount_0f7a4_42, dJ6_bitCount_0f7a4_43, dJ6_bitCount_0f7a4_45, dJ6_bitCount_0f7a4_46, dJ6_bitCount_0f7a4_47, dJ6_bitCount_0f7a4_48, dJ6_bitCount_0f7a4_49, dJ6_bitCount_0f7a4_51, dJ6_bitCount_0f7a4_52, e1, t_bc0.2.2.1, e2, CXJ_267]
  repeat' (first | exact trivial | omega | (with_reducible assumption) | exact absurd trivial (by with_reducible assumption) | contradiction | apply And.intro | intro _)
theorem t_bc2 (V : Nat → List (Option AV) → List AV → Mem → Prop) (K : List AV → Mem → Prop) (hV : Clos FXJ CXJ GXJ 1 K cJ6_bitCount_0f7a4 V) (μ : Mem) (x : Nat) (hx : x < 100000) (h : V 24 [some (.inl (bc2 x : Int))] [] μ) : V 10 [some (.inl (x : Int))] [] μ := by
  have e1 := sh_c (x := x) (k := 2) (by omega)
  unfold bc2 at h
  rw [Int.natCast_add] at h
  apply hV [24] 20
  simp only [InR, InL, inb, Int.toNat_natCast, wp1, wpc_z, wpc_s, stp_iconst, stp_bipush, stp_sipush, stp_lconst, stp_iload_n, stp_iload, stp_lload_n, stp_lload, stp_aload_n, stp_aload, stp_istore_n, stp_istore, stp_lstore_n, stp_lstore, stp_astore_n, stp_astore, stp_iinc, stp_iadd, stp_isub, stp_imul, stp_ineg, stp_idiv, stp_irem, stp_ladd, stp_lmul, stp_ldiv, stp_lrem, stp_ishl, stp_ishr, stp_iushr, stp_iand, stp_ior, stp_i2l, stp_i2b, stp_i2s, stp_lcmp, stp_dup, stp_dup2, stp_pop, stp_ifCond, stp_if_icmp, stp_goto, stp_tableswitch, stp_lookupswitch, stp_ldc, stp_ldc_w, stp_ldc2_w, stp_getstatic, stp_getfield, stp_putfield, stp_iaload, stp_baload, stp_iastore, stp_bastore, stp_aaload, stp_aastore, stp_invokevirtual, stp_invokestatic, stp_ireturn, stp_lreturn, stp_return_, lg, lset, okl, spl, wd, c1, cnd, tg, swT, swL, f4_0, f4_1, f4_2, f4_3, f2_0, f2_1, List.mem_cons, List.not_mem_nil, List.length_cons, List.length_nil, List.cons_append, List.nil_append, Nat.reduceAdd, Nat.reduceMul, Nat.reduceLT, Nat.reduceEqDiff, Nat.reduceLeDiff, Int.reduceAdd, Int.reduceNeg, Int.reduceToNat, Int.cast_ofNat_Int, Int.reduceNatCast, Int.toNat_zero, Int.toNat_one, Int.reduceLE, Int.reduceLT, Int.reduceEq, Int.zero_add, Int.add_zero, or_false, false_or, or_true, true_or, and_true, true_and, and_false, false_and, reduceIte, not_true_eq_false, not_false_eq_true, forall_const, false_implies, true_implies, implies_true, ne_eq, reduceCtorEq, List.all_cons, List.all_nil, Bool.and_true, Bool.and_self, decide_eq_true_eq, decide_true, dJ6_bitCount_0f7a4_0, dJ6_bitCount_0f7a4_1, dJ6_bitCount_0f7a4_2, dJ6_bitCount_0f7a4_3, dJ6_bitCount_0f7a4_4, dJ6_bitCount_0f7a4_7, dJ6_bitCount_0f7a4_8, dJ6_bitCount_0f7a4_9, dJ6_bitCount_0f7a4_10, dJ6_bitCount_0f7a4_11, dJ6_bitCount_0f7a4_14, dJ6_bitCount_0f7a4_15, dJ6_bitCount_0f7a4_16, dJ6_bitCount_0f7a4_17, dJ6_bitCount_0f7a4_18, dJ6_bitCount_0f7a4_21, dJ6_bitCount_0f7a4_22, dJ6_bitCount_0f7a4_23, dJ6_bitCount_0f7a4_24, dJ6_bitCount_0f7a4_25, dJ6_bitCount_0f7a4_26, dJ6_bitCount_0f7a4_27, dJ6_bitCount_0f7a4_28, dJ6_bitCount_0f7a4_29, dJ6_bitCount_0f7a4_32, dJ6_bitCount_0f7a4_33, dJ6_bitCount_0f7a4_34, dJ6_bitCount_0f7a4_35, dJ6_bitCount_0f7a4_36, dJ6_bitCount_0f7a4_38, dJ6_bitCount_0f7a4_39, dJ6_bitCount_0f7a4_40, dJ6_bitCount_0f7a4_41, dJ6_bitCount_0f7a4_42, dJ6_bitCount_0f7a4_43, dJ6_bitCount_0f7a4_45, dJ6_bitCount_0f7a4_46, dJ6_bitCount_0f7a4_47, dJ6_bitCount_0f7a4_48, dJ6_bitCount_0f7a4_49, dJ6_bitCount_0f7a4_51, dJ6_bitCount_0f7a4_52, e1, t_bc0.2.1, CXJ_266]
  repeat' (first | exact trivial | omega | (with_reducible assumption) | exact absurd trivial (by with_reducible assumption) | contradiction | apply And.intro | intro _)
theorem t_bc1 (V : Nat → List (Option AV) → List AV → Mem → Prop) (K : List AV → Mem → Prop) (hV : Clos FXJ CXJ GXJ 1 K cJ6_bitCount_0f7a4 V) (μ : Mem) (x : Nat) (hx : x < 100000) (h : V 10 [some (.inl (bc1 x : Int))] [] μ) : V 0 [some (.inl (x : Int))] [] μ := by
  have e1 := sh_c (x := x) (k := 1) (by omega)
  have hl := Nat.and_le_left (n := x / 2) (m := 1431655765)
  have e2 : ((x : Int) - ((x / 2 &&& 1431655765 : Nat) : Int)) = (bc1 x : Int) := by unfold bc1; omega
  apply hV [10] 20
  simp only [InR, InL, inb, Int.toNat_natCast, wp1, wpc_z, wpc_s, stp_iconst, stp_bipush, stp_sipush, stp_lconst, stp_iload_n, stp_iload, stp_lload_n, stp_lload, stp_aload_n, stp_aload, stp_istore_n, stp_istore, stp_lstore_n, stp_lstore, stp_astore_n, stp_astore, stp_iinc, stp_iadd, stp_isub, stp_imul, stp_ineg, stp_idiv, stp_irem, stp_ladd, stp_lmul, stp_ldiv, stp_lrem, stp_ishl, stp_ishr, stp_iushr, stp_iand, stp_ior, stp_i2l, stp_i2b, stp_i2s, stp_lcmp, stp_dup, stp_dup2, stp_pop, stp_ifCond, stp_if_icmp, stp_goto, stp_tableswitch, stp_lookupswitch, stp_ldc, stp_ldc_w, stp_ldc2_w, stp_getstatic, stp_getfield, stp_putfield, stp_iaload, stp_baload, stp_iastore, stp_bastore, stp_aaload, stp_aastore, stp_invokevirtual, stp_invokestatic, stp_ireturn, stp_lreturn, stp_return_, lg, lset, okl, spl, wd, c1, cnd, tg, swT, swL, f4_0, f4_1, f4_2, f4_3, f2_0, f2_1, List.mem_cons, List.not_mem_nil, List.length_cons, List.length_nil, List.cons_append, List.nil_append, Nat.reduceAdd, Nat.reduceMul, Nat.reduceLT, Nat.reduceEqDiff, Nat.reduceLeDiff, Int.reduceAdd, Int.reduceNeg, Int.reduceToNat, Int.cast_ofNat_Int, Int.reduceNatCast, Int.toNat_zero, Int.toNat_one, Int.reduceLE, Int.reduceLT, Int.reduceEq, Int.zero_add, Int.add_zero, or_false, false_or, or_true, true_or, and_true, true_and, and_false, false_and, reduceIte, not_true_eq_false, not_false_eq_true, forall_const, false_implies, true_implies, implies_true, ne_eq, reduceCtorEq, List.all_cons, List.all_nil, Bool.and_true, Bool.and_self, decide_eq_true_eq, decide_true, dJ6_bitCount_0f7a4_0, dJ6_bitCount_0f7a4_1, dJ6_bitCount_0f7a4_2, dJ6_bitCount_0f7a4_3, dJ6_bitCount_0f7a4_4, dJ6_bitCount_0f7a4_7, dJ6_bitCount_0f7a4_8, dJ6_bitCount_0f7a4_9, dJ6_bitCount_0f7a4_10, dJ6_bitCount_0f7a4_11, dJ6_bitCount_0f7a4_14, dJ6_bitCount_0f7a4_15, dJ6_bitCount_0f7a4_16, dJ6_bitCount_0f7a4_17, dJ6_bitCount_0f7a4_18, dJ6_bitCount_0f7a4_21, dJ6_bitCount_0f7a4_22, dJ6_bitCount_0f7a4_23, dJ6_bitCount_0f7a4_24, dJ6_bitCount_0f7a4_25, dJ6_bitCount_0f7a4_26, dJ6_bitCount_0f7a4_27, dJ6_bitCount_0f7a4_28, dJ6_bitCount_0f7a4_29, dJ6_bitCount_0f7a4_32, dJ6_bitCount_0f7a4_33, dJ6_bitCount_0f7a4_34, dJ6_bitCount_0f7a4_35, dJ6_bitCount_0f7a4_36, dJ6_bitCount_0f7a4_38, dJ6_bitCount_0f7a4_39, dJ6_bitCount_0f7a4_40, dJ6_bitCount_0f7a4_41, dJ6_bitCount_0f7a4_42, dJ6_bitCount_0f7a4_43, dJ6_bitCount_0f7a4_45, dJ6_bitCount_0f7a4_46, dJ6_bitCount_0f7a4_47, dJ6_bitCount_0f7a4_48, dJ6_bitCount_0f7a4_49, dJ6_bitCount_0f7a4_51, dJ6_bitCount_0f7a4_52, e1, t_bc0.1, CXJ_265, e2]
  repeat' (first | exact trivial | omega | (with_reducible assumption) | exact absurd trivial (by with_reducible assumption) | contradiction | apply And.intro | intro _)
theorem bc_b (x : Nat) (hx : x < 1024) : bc1 x < 1024 ∧ bc2 (bc1 x) < 2048 ∧ bc3 (bc2 (bc1 x)) < 4096 ∧ bc4 (bc3 (bc2 (bc1 x))) < 8192 ∧ bc5 (bc4 (bc3 (bc2 (bc1 x)))) < 16384 := by
  have h1 : bc1 x < 1024 := by unfold bc1; omega
  generalize bc1 x = a at h1
  have h2 : bc2 a < 2048 := by
    have a1 := Nat.and_le_left (n := a) (m := 858993459)
    have a2 := Nat.and_le_left (n := a / 4) (m := 858993459)
    unfold bc2; omega
  generalize bc2 a = b at h2
  have h3 : bc3 b < 4096 := by
    have a1 := Nat.and_le_left (n := b + b / 16) (m := 252645135)
    unfold bc3; omega
  generalize bc3 b = c at h3
  have h4 : bc4 c < 8192 := by unfold bc4; omega
  generalize bc4 c = d at h4
  have h5 : bc5 d < 16384 := by unfold bc5; omega
  exact ⟨h1, h2, h3, h4, h5⟩
theorem good_bit (l : Launch) : Good l 0 yJ6_bitCount_0f7a4 cJ6_bitCount_0f7a4 1 (some .int) T_bit := by
  refine Good.mk (own := RJ6) (F := FXJ) (Cn := CXJ) (G := GXJ) 1 (by decide) rfl (by simp [retOK]) (fun i q h => by cases h) COKJ (fun i n b T h => by cases h) ?_ ?_
  · intro a μ K h
    unfold T_bit at h
    split at h
    · simp [entl]
    · exact h.elim
  · intro a μ K V hV h
    unfold T_bit at h
    split at h
    · obtain ⟨n, rfl, hn, hK⟩ := h
      obtain ⟨h1, h2, h3, h4, h5⟩ := bc_b n hn
      rw [← bc_pc n hn] at hK
      exact t_bc1 V K hV μ n (by omega) (t_bc2 V K hV μ _ (by omega) (t_bc3 V K hV μ _ (by omega) (t_bc4 V K hV μ _ (by omega) (t_bc5 V K hV μ _ (by omega) (t_bc6 V K hV μ _ (by omega) hK)))))
    · exact h.elim
/-- the bits told one by one -/
theorem bits_n (p : Nat → Bool) (g : Nat) : ∀ N, g < N → bitsN p N / 2 ^ g % 2 = if p g = true then 1 else 0
  | 0, h => by omega
  | N + 1, h => by
    have hb := bitsN_lt p N
    have h0 : 0 < 2 ^ g := Nat.two_pow_pos g
    simp only [bitsN]
    by_cases e : g = N
    · subst e
      by_cases z : p g = true
      · rw [if_pos z, if_pos z, Nat.add_div_right _ h0, Nat.div_eq_of_lt hb]
      · rw [if_neg z, if_neg z, Nat.add_zero, Nat.div_eq_of_lt hb]
    · have ih := bits_n p g N (by omega)
      by_cases z : p N = true
      · rw [if_pos z]
        have e2 : 2 ^ N = 2 ^ g * (2 * 2 ^ (N - g - 1)) := by
          rw [← Nat.mul_assoc, ← Nat.pow_succ, ← Nat.pow_add]
          congr 1
          omega
        rw [e2, Nat.add_mul_div_left _ _ h0, Nat.add_mul_mod_self_left]
        exact ih
      · rw [if_neg z, Nat.add_zero]
        exact ih
theorem bits_i (p : Nat → Bool) (g N : Nat) (h : g < N) : ((bitsN p N : Nat) : Int) / 2 ^ g % 2 = (if p g = true then 1 else 0) := by
  have := bits_n p g N h
  rw [p2_c, ← Int.natCast_ediv]
  generalize bitsN p N / 2 ^ g = y at this
  by_cases z : p g = true
  · rw [if_pos z] at this ⊢
    omega
  · rw [if_neg z] at this ⊢
    omega
def cntP (p : Nat → Bool) : Nat → Nat
  | 0 => 0
  | k + 1 => cntP p k + (if p k = true then 1 else 0)
theorem cntP_le (p : Nat → Bool) : ∀ k, cntP p k ≤ k
  | 0 => by simp [cntP]
  | k + 1 => by
    have := cntP_le p k
    simp only [cntP]
    split <;> omega
theorem cntP_mono (p : Nat → Bool) {a b : Nat} (h : a ≤ b) : cntP p a ≤ cntP p b := by
  induction b with
  | zero => rw [show a = 0 by omega]; omega
  | succ b ih =>
    by_cases e : a = b + 1
    · subst e; omega
    · have := ih (by omega)
      simp only [cntP]
      omega
theorem pc_cnt (p : Nat → Bool) (N : Nat) : ∀ k, k ≤ N → pcN (bitsN p N) k = cntP p k
  | 0, _ => rfl
  | k + 1, h => by
    simp only [pcN, cntP]
    rw [pc_cnt p N k (by omega), bits_n p k N (by omega)]
def sumR (ψ : Nat → Int) : Nat → Int
  | 0 => 0
  | m + 1 => sumR ψ m + ψ m
def sumC (p : Nat → Bool) (φ : Nat → Int) : Nat → Int
  | 0 => 0
  | k + 1 => sumC p φ k + (if p k = true then φ k else 0)
def maxR (ψ : Nat → Int) : Nat → Int
  | 0 => 0
  | m + 1 => max (maxR ψ m) (ψ m)
def maxC (p : Nat → Bool) (φ : Nat → Int) : Nat → Int
  | 0 => 0
  | k + 1 => if p k = true then max (maxC p φ k) (φ k) else maxC p φ k
theorem sumB {p : Nat → Bool} {φ ψ : Nat → Int} {N : Nat} (h : ∀ g, g < N → p g = true → ψ (cntP p g) = φ g) : ∀ k, k ≤ N → sumR ψ (cntP p k) = sumC p φ k
  | 0, _ => rfl
  | k + 1, hk => by
    have ih := sumB h k (by omega)
    simp only [cntP, sumC]
    by_cases z : p k = true
    · rw [if_pos z, if_pos z, sumR, ih, h k (by omega) z]
    · rw [if_neg z, if_neg z, Nat.add_zero, ih, Int.add_zero]
theorem maxB {p : Nat → Bool} {φ ψ : Nat → Int} {N : Nat} (h : ∀ g, g < N → p g = true → ψ (cntP p g) = φ g) : ∀ k, k ≤ N → maxR ψ (cntP p k) = maxC p φ k
  | 0, _ => rfl
  | k + 1, hk => by
    have ih := maxB h k (by omega)
    simp only [cntP, maxC]
    by_cases z : p k = true
    · rw [if_pos z, if_pos z, maxR, ih, h k (by omega) z]
    · rw [if_neg z, if_neg z, Nat.add_zero, ih]
def isq (a b : Int) : Int := if a = b then 1 else 0
theorem isq_in (a b : Int) : 0 ≤ isq a b ∧ isq a b ≤ 1 := by unfold isq; split <;> omega
theorem sumC_in {p : Nat → Bool} {φ : Nat → Int} (h : ∀ g, 0 ≤ φ g ∧ φ g ≤ 1) : ∀ k : Nat, 0 ≤ sumC p φ k ∧ sumC p φ k ≤ k
  | 0 => by simp [sumC]
  | k + 1 => by
    have := sumC_in (p := p) h k
    have := h k
    simp only [sumC]
    split <;> omega
theorem maxC_in {p : Nat → Bool} {φ : Nat → Int} {b : Int} (hb : 0 ≤ b) (h : ∀ g, 0 ≤ φ g ∧ φ g ≤ b) : ∀ k : Nat, 0 ≤ maxC p φ k ∧ maxC p φ k ≤ b
  | 0 => by simp [maxC]; exact hb
  | k + 1 => by
    have := maxC_in (p := p) hb h k
    have := h k
    simp only [maxC]
    split <;> omega
/-- gains by which the queue behind n visits is q; at the worst -/
def alk (p : Nat → Bool) (L : Nat → Nat → Int) (n : Nat) (q : Int) : Int := sumC p (fun g => isq (L g n) q) 10
def wst (p : Nat → Bool) (L : Nat → Nat → Int) (n : Nat) : Int := maxC p (fun g => alk p L n (L g n)) 10
theorem alk_in (p : Nat → Bool) (L : Nat → Nat → Int) (n : Nat) (q : Int) : 0 ≤ alk p L n q ∧ alk p L n q ≤ 10 := sumC_in (fun g => isq_in _ _) 10
theorem wst_in (p : Nat → Bool) (L : Nat → Nat → Int) (n : Nat) : 0 ≤ wst p L n ∧ wst p L n ≤ 10 := maxC_in (by omega) (fun g => alk_in _ _ _ _) 10
theorem el_55 (μ : Mem) (j : Nat) : el μ 55 j = 56 + j := by simp [el, kd_55]
theorem lkk : ∀ g, g < 10 → kd (56 + g) = 7 ∧ ln (56 + g) = 41 := by decide +kernel
def LK (μ : Mem) (p : Nat → Bool) (L : Nat → Nat → Int) (k : Nat) : Prop := ∀ g n : Nat, g < k → n ≤ 40 → p g = true → rI μ (56 + g) n = L g n
def GL_X5_alike : List (Nat × Nat × Bool × TT) := []
def G_X5_alike : Nat → Option (Nat × Bool × TT) := fun i => GL_X5_alike.lookup i

set_option maxRecDepth 20000 in
set_option maxHeartbeats 4000000 in
theorem lp_alike (V : Nat → List (Option AV) → List AV → Mem → Prop) (K : List AV → Mem → Prop) (hV : Clos FX5 CX5 G_X5_alike 1 K cX5_alike V) (μ : Mem) (p : Nat → Bool) (L : Nat → Nat → Int) (n : Nat) (hn : n ≤ 40) (q : Int) (hq : InR q) (hL : LK μ p L 10) (hr : ∀ g, g < 10 → p g = true → 0 ≤ L g n ∧ L g n ≤ 99) (hK : K [.inl (alk p L n q)] μ) : ∀ m k : Nat, k + m = 10 → V 6 [some (.inr (.inr 0)), some (.inl ((bitsN p 10 : Nat) : Int)), some (.inl (n : Int)), some (.inl q), some (.inl (sumC p (fun g => isq (L g n) q) k)), some (.inl (k : Int))] [] μ := by
  have hb := bitsN_b p 10 (by omega)
  have em := bm_id (a := ((bitsN p 10 : Nat) : Int)) ⟨by omega, by omega⟩
  simp only [InR] at hq
  intro m
  induction m with
  | zero =>
    intro k hk
    have ek : k = 10 := by omega
    subst ek
    have hk : K [.inl (sumC p (fun g => isq (L g n) q) 10)] μ := hK
    apply hV [6] 40
    simp only [InR, InL, inb, Int.toNat_natCast, wp1, wpc_z, wpc_s, stp_iconst, stp_bipush, stp_sipush, stp_lconst, stp_iload_n, stp_iload, stp_lload_n, stp_lload, stp_aload_n, stp_aload, stp_istore_n, stp_istore, stp_lstore_n, stp_lstore, stp_astore_n, stp_astore, stp_iinc, stp_iadd, stp_isub, stp_imul, stp_ineg, stp_idiv, stp_irem, stp_ladd, stp_lmul, stp_ldiv, stp_lrem, stp_ishl, stp_ishr, stp_iushr, stp_iand, stp_ior, stp_i2l, stp_i2b, stp_i2s, stp_lcmp, stp_dup, stp_dup2, stp_pop, stp_ifCond, stp_if_icmp, stp_goto, stp_tableswitch, stp_lookupswitch, stp_ldc, stp_ldc_w, stp_ldc2_w, stp_getstatic, stp_getfield, stp_putfield, stp_iaload, stp_baload, stp_iastore, stp_bastore, stp_aaload, stp_aastore, stp_invokevirtual, stp_invokestatic, stp_ireturn, stp_lreturn, stp_return_, lg, lset, okl, spl, wd, c1, cnd, tg, swT, swL, f4_0, f4_1, f4_2, f4_3, f2_0, f2_1, List.mem_cons, List.not_mem_nil, List.length_cons, List.length_nil, List.cons_append, List.nil_append, Nat.reduceAdd, Nat.reduceMul, Nat.reduceLT, Nat.reduceEqDiff, Nat.reduceLeDiff, Int.reduceAdd, Int.reduceNeg, Int.reduceToNat, Int.cast_ofNat_Int, Int.reduceNatCast, Int.toNat_zero, Int.toNat_one, Int.reduceLE, Int.reduceLT, Int.reduceEq, Int.zero_add, Int.add_zero, or_false, false_or, or_true, true_or, and_true, true_and, and_false, false_and, reduceIte, not_true_eq_false, not_false_eq_true, forall_const, false_implies, true_implies, implies_true, ne_eq, reduceCtorEq, List.all_cons, List.all_nil, Bool.and_true, Bool.and_self, decide_eq_true_eq, decide_true, dX5_alike_0, dX5_alike_1, dX5_alike_3, dX5_alike_4, dX5_alike_6, dX5_alike_8, dX5_alike_10, dX5_alike_13, dX5_alike_14, dX5_alike_16, dX5_alike_17, dX5_alike_18, dX5_alike_19, dX5_alike_20, dX5_alike_23, dX5_alike_24, dX5_alike_27, dX5_alike_29, dX5_alike_30, dX5_alike_31, dX5_alike_32, dX5_alike_33, dX5_alike_36, dX5_alike_39, dX5_alike_42, dX5_alike_45, dX5_alike_47, FX5_47]
    repeat' (first | exact trivial | omega | (with_reducible assumption) | exact absurd trivial (by with_reducible assumption) | contradiction | apply And.intro | intro _)
  | succ m ih =>
    intro k hk
    have h := ih (k + 1) (by omega)
    rw [show ((k + 1 : Nat) : Int) = (k : Int) + 1 by omega] at h
    simp only [sumC] at h
    have eb := bits_i p k 10 (by omega)
    obtain ⟨k7, l41⟩ := lkk k (by omega)
    by_cases z : p k = true
    · rw [if_pos z] at h eb
      have hv : rI μ (56 + k) n = L k n := hL k n (by omega) hn z
      have hr := hr k (by omega) z
      apply hV [6] 40
      simp only [InR, InL, inb, Int.toNat_natCast, wp1, wpc_z, wpc_s, stp_iconst, stp_bipush, stp_sipush, stp_lconst, stp_iload_n, stp_iload, stp_lload_n, stp_lload, stp_aload_n, stp_aload, stp_istore_n, stp_istore, stp_lstore_n, stp_lstore, stp_astore_n, stp_astore, stp_iinc, stp_iadd, stp_isub, stp_imul, stp_ineg, stp_idiv, stp_irem, stp_ladd, stp_lmul, stp_ldiv, stp_lrem, stp_ishl, stp_ishr, stp_iushr, stp_iand, stp_ior, stp_i2l, stp_i2b, stp_i2s, stp_lcmp, stp_dup, stp_dup2, stp_pop, stp_ifCond, stp_if_icmp, stp_goto, stp_tableswitch, stp_lookupswitch, stp_ldc, stp_ldc_w, stp_ldc2_w, stp_getstatic, stp_getfield, stp_putfield, stp_iaload, stp_baload, stp_iastore, stp_bastore, stp_aaload, stp_aastore, stp_invokevirtual, stp_invokestatic, stp_ireturn, stp_lreturn, stp_return_, lg, lset, okl, spl, wd, c1, cnd, tg, swT, swL, f4_0, f4_1, f4_2, f4_3, f2_0, f2_1, List.mem_cons, List.not_mem_nil, List.length_cons, List.length_nil, List.cons_append, List.nil_append, Nat.reduceAdd, Nat.reduceMul, Nat.reduceLT, Nat.reduceEqDiff, Nat.reduceLeDiff, Int.reduceAdd, Int.reduceNeg, Int.reduceToNat, Int.cast_ofNat_Int, Int.reduceNatCast, Int.toNat_zero, Int.toNat_one, Int.reduceLE, Int.reduceLT, Int.reduceEq, Int.zero_add, Int.add_zero, or_false, false_or, or_true, true_or, and_true, true_and, and_false, false_and, reduceIte, not_true_eq_false, not_false_eq_true, forall_const, false_implies, true_implies, implies_true, ne_eq, reduceCtorEq, List.all_cons, List.all_nil, Bool.and_true, Bool.and_self, decide_eq_true_eq, decide_true, dX5_alike_0, dX5_alike_1, dX5_alike_3, dX5_alike_4, dX5_alike_6, dX5_alike_8, dX5_alike_10, dX5_alike_13, dX5_alike_14, dX5_alike_16, dX5_alike_17, dX5_alike_18, dX5_alike_19, dX5_alike_20, dX5_alike_23, dX5_alike_24, dX5_alike_27, dX5_alike_29, dX5_alike_30, dX5_alike_31, dX5_alike_32, dX5_alike_33, dX5_alike_36, dX5_alike_39, dX5_alike_42, dX5_alike_45, dX5_alike_47, FX5_47, kd_0, kd_55, ln_55, el_55, em, eb, k7, l41, hv]
      clear em eb
      by_cases y : L k n = q
      · rw [show isq (L k n) q = 1 from if_pos y] at h
        repeat' (first | exact trivial | omega | (with_reducible assumption) | exact absurd trivial (by with_reducible assumption) | contradiction | apply And.intro | intro _)
      · rw [show isq (L k n) q = 0 from if_neg y, Int.add_zero] at h
        repeat' (first | exact trivial | omega | (with_reducible assumption) | exact absurd trivial (by with_reducible assumption) | contradiction | apply And.intro | intro _)
    · rw [if_neg z, Int.add_zero] at h
      rw [if_neg z] at eb
      apply hV [6] 40
      simp only [InR, InL, inb, Int.toNat_natCast, wp1, wpc_z, wpc_s, stp_iconst, stp_bipush, stp_sipush, stp_lconst, stp_iload_n, stp_iload, stp_lload_n, stp_lload, stp_aload_n, stp_aload, stp_istore_n, stp_istore, stp_lstore_n, stp_lstore, stp_astore_n, stp_astore, stp_iinc, stp_iadd, stp_isub, stp_imul, stp_ineg, stp_idiv, stp_irem, stp_ladd, stp_lmul, stp_ldiv, stp_lrem, stp_ishl, stp_ishr, stp_iushr, stp_iand, stp_ior, stp_i2l, stp_i2b, stp_i2s, stp_lcmp, stp_dup, stp_dup2, stp_pop, stp_ifCond, stp_if_icmp, stp_goto, stp_tableswitch, stp_lookupswitch, stp_ldc, stp_ldc_w, stp_ldc2_w, stp_getstatic, stp_getfield, stp_putfield, stp_iaload, stp_baload, stp_iastore, stp_bastore, stp_aaload, stp_aastore, stp_invokevirtual, stp_invokestatic, stp_ireturn, stp_lreturn, stp_return_, lg, lset, okl, spl, wd, c1, cnd, tg, swT, swL, f4_0, f4_1, f4_2, f4_3, f2_0, f2_1, List.mem_cons, List.not_mem_nil, List.length_cons, List.length_nil, List.cons_append, List.nil_append, Nat.reduceAdd, Nat.reduceMul, Nat.reduceLT, Nat.reduceEqDiff, Nat.reduceLeDiff, Int.reduceAdd, Int.reduceNeg, Int.reduceToNat, Int.cast_ofNat_Int, Int.reduceNatCast, Int.toNat_zero, Int.toNat_one, Int.reduceLE, Int.reduceLT, Int.reduceEq, Int.zero_add, Int.add_zero, or_false, false_or, or_true, true_or, and_true, true_and, and_false, false_and, reduceIte, not_true_eq_false, not_false_eq_true, forall_const, false_implies, true_implies, implies_true, ne_eq, reduceCtorEq, List.all_cons, List.all_nil, Bool.and_true, Bool.and_self, decide_eq_true_eq, decide_true, dX5_alike_0, dX5_alike_1, dX5_alike_3, dX5_alike_4, dX5_alike_6, dX5_alike_8, dX5_alike_10, dX5_alike_13, dX5_alike_14, dX5_alike_16, dX5_alike_17, dX5_alike_18, dX5_alike_19, dX5_alike_20, dX5_alike_23, dX5_alike_24, dX5_alike_27, dX5_alike_29, dX5_alike_30, dX5_alike_31, dX5_alike_32, dX5_alike_33, dX5_alike_36, dX5_alike_39, dX5_alike_42, dX5_alike_45, dX5_alike_47, FX5_47, em, eb]
      clear em eb
      repeat' (first | exact trivial | omega | (with_reducible assumption) | exact absurd trivial (by with_reducible assumption) | contradiction | apply And.intro | intro _)
def T5_alike : TT := fun a μ K => match a with
  | [.inr (.inr o), .inl l, .inl n, .inl q] => o = 0 ∧ (InR q ∧ ∃ (p : Nat → Bool) (L : Nat → Nat → Int) (n' : Nat), l = ((bitsN p 10 : Nat) : Int) ∧ n = n' ∧ n' ≤ 40 ∧ LK μ p L 10 ∧ (∀ g, g < 10 → p g = true → 0 ≤ L g n' ∧ L g n' ≤ 99) ∧ K [.inl (alk p L n' q)] μ)
  | _ => False
theorem rec_X5_alike : ∀ a μ K, T5_alike a μ K → ∃ k r, a = .inr (.inr k) :: r ∧ kd k = 5 := by
  intro a μ K h
  unfold T5_alike at h
  split at h
  · exact ⟨_, _, rfl, by rw [h.1]; rfl⟩
  · exact h.elim
theorem gk_X5_alike (l : Launch) : ∀ i n b T, G_X5_alike i = some (n, b, T) → CallOK l 0 RX5 i n b T := by
  intro i n b T h
  have hm : (i, n, b, T) ∈ GL_X5_alike := lk_mem h
  simp [GL_X5_alike] at hm
set_option maxRecDepth 20000 in
set_option maxHeartbeats 4000000 in
theorem body_X5_alike (o : Nat) (l : Int) (n : Int) (q : Int) (μ : Mem) (K : List AV → Mem → Prop) (V : Nat → List (Option AV) → List AV → Mem → Prop) (hV : Clos FX5 CX5 G_X5_alike 1 K cX5_alike V) (hT : o = 0 ∧ (InR q ∧ ∃ (p : Nat → Bool) (L : Nat → Nat → Int) (n' : Nat), l = ((bitsN p 10 : Nat) : Int) ∧ n = n' ∧ n' ≤ 40 ∧ LK μ p L 10 ∧ (∀ g, g < 10 → p g = true → 0 ≤ L g n' ∧ L g n' ≤ 99) ∧ K [.inl (alk p L n' q)] μ)) : V 0 [some (.inr (.inr o)), some (.inl l), some (.inl n), some (.inl q), none, none] [] μ := by
  obtain ⟨rfl, hq, p, L, n', rfl, rfl, hn, hL, hr, hK⟩ := hT
  have h := lp_alike V K hV μ p L n' hn q hq hL hr hK 10 0 (by omega)
  simp only [sumC] at h
  apply hV [6] 20
  simp only [InR, InL, inb, Int.toNat_natCast, wp1, wpc_z, wpc_s, stp_iconst, stp_bipush, stp_sipush, stp_lconst, stp_iload_n, stp_iload, stp_lload_n, stp_lload, stp_aload_n, stp_aload, stp_istore_n, stp_istore, stp_lstore_n, stp_lstore, stp_astore_n, stp_astore, stp_iinc, stp_iadd, stp_isub, stp_imul, stp_ineg, stp_idiv, stp_irem, stp_ladd, stp_lmul, stp_ldiv, stp_lrem, stp_ishl, stp_ishr, stp_iushr, stp_iand, stp_ior, stp_i2l, stp_i2b, stp_i2s, stp_lcmp, stp_dup, stp_dup2, stp_pop, stp_ifCond, stp_if_icmp, stp_goto, stp_tableswitch, stp_lookupswitch, stp_ldc, stp_ldc_w, stp_ldc2_w, stp_getstatic, stp_getfield, stp_putfield, stp_iaload, stp_baload, stp_iastore, stp_bastore, stp_aaload, stp_aastore, stp_invokevirtual, stp_invokestatic, stp_ireturn, stp_lreturn, stp_return_, lg, lset, okl, spl, wd, c1, cnd, tg, swT, swL, f4_0, f4_1, f4_2, f4_3, f2_0, f2_1, List.mem_cons, List.not_mem_nil, List.length_cons, List.length_nil, List.cons_append, List.nil_append, Nat.reduceAdd, Nat.reduceMul, Nat.reduceLT, Nat.reduceEqDiff, Nat.reduceLeDiff, Int.reduceAdd, Int.reduceNeg, Int.reduceToNat, Int.cast_ofNat_Int, Int.reduceNatCast, Int.toNat_zero, Int.toNat_one, Int.reduceLE, Int.reduceLT, Int.reduceEq, Int.zero_add, Int.add_zero, or_false, false_or, or_true, true_or, and_true, true_and, and_false, false_and, reduceIte, not_true_eq_false, not_false_eq_true, forall_const, false_implies, true_implies, implies_true, ne_eq, reduceCtorEq, List.all_cons, List.all_nil, Bool.and_true, Bool.and_self, decide_eq_true_eq, decide_true, dX5_alike_0, dX5_alike_1, dX5_alike_3, dX5_alike_4, dX5_alike_6, dX5_alike_8, dX5_alike_10, dX5_alike_13, dX5_alike_14, dX5_alike_16, dX5_alike_17, dX5_alike_18, dX5_alike_19, dX5_alike_20, dX5_alike_23, dX5_alike_24, dX5_alike_27, dX5_alike_29, dX5_alike_30, dX5_alike_31, dX5_alike_32, dX5_alike_33, dX5_alike_36, dX5_alike_39, dX5_alike_42, dX5_alike_45, dX5_alike_47, FX5_47]
  exact h
theorem good_X5_alike (l : Launch) : Good l 0 yX5_alike cX5_alike 6 (some .int) T5_alike := by
  refine Good.mk 1 (by decide) rfl (by simp [retOK]) FOK5 COK5 (gk_X5_alike l) ?_ ?_
  · intro a μ K h
    unfold T5_alike at h
    split at h
    · simp [entl]
    · exact h.elim
  · intro a μ K V hV h
    unfold T5_alike at h
    split at h
    · exact body_X5_alike _ _ _ _ μ K V hV h
    · exact h.elim

def GL_X5_worstLeft : List (Nat × Nat × Bool × TT) := [(235, 4, false, T5_alike), (151, 2, true, T_max)]
def G_X5_worstLeft : Nat → Option (Nat × Bool × TT) := fun i => GL_X5_worstLeft.lookup i
theorem G_X5_worstLeft_235 : G_X5_worstLeft 235 = some (4, false, T5_alike) := rfl
theorem G_X5_worstLeft_151 : G_X5_worstLeft 151 = some (2, true, T_max) := rfl

set_option maxRecDepth 20000 in
set_option maxHeartbeats 4000000 in
theorem lp_worst (V : Nat → List (Option AV) → List AV → Mem → Prop) (K : List AV → Mem → Prop) (hV : Clos FX5 CX5 G_X5_worstLeft 1 K cX5_worstLeft V) (μ : Mem) (p : Nat → Bool) (L : Nat → Nat → Int) (n : Nat) (hn : n ≤ 40) (hL : LK μ p L 10) (hr : ∀ g, g < 10 → p g = true → 0 ≤ L g n ∧ L g n ≤ 99) (hK : K [.inl (wst p L n)] μ) : ∀ m k : Nat, k + m = 10 → V 5 [some (.inr (.inr 0)), some (.inl ((bitsN p 10 : Nat) : Int)), some (.inl (n : Int)), some (.inl (maxC p (fun g => alk p L n (L g n)) k)), some (.inl (k : Int))] [] μ := by
  have hb := bitsN_b p 10 (by omega)
  have em := bm_id (a := ((bitsN p 10 : Nat) : Int)) ⟨by omega, by omega⟩
  intro m
  induction m with
  | zero =>
    intro k hk
    have ek : k = 10 := by omega
    subst ek
    have hk : K [.inl (maxC p (fun g => alk p L n (L g n)) 10)] μ := hK
    apply hV [5] 40
    simp only [InR, InL, inb, Int.toNat_natCast, wp1, wpc_z, wpc_s, stp_iconst, stp_bipush, stp_sipush, stp_lconst, stp_iload_n, stp_iload, stp_lload_n, stp_lload, stp_aload_n, stp_aload, stp_istore_n, stp_istore, stp_lstore_n, stp_lstore, stp_astore_n, stp_astore, stp_iinc, stp_iadd, stp_isub, stp_imul, stp_ineg, stp_idiv, stp_irem, stp_ladd, stp_lmul, stp_ldiv, stp_lrem, stp_ishl, stp_ishr, stp_iushr, stp_iand, stp_ior, stp_i2l, stp_i2b, stp_i2s, stp_lcmp, stp_dup, stp_dup2, stp_pop, stp_ifCond, stp_if_icmp, stp_goto, stp_tableswitch, stp_lookupswitch, stp_ldc, stp_ldc_w, stp_ldc2_w, stp_getstatic, stp_getfield, stp_putfield, stp_iaload, stp_baload, stp_iastore, stp_bastore, stp_aaload, stp_aastore, stp_invokevirtual, stp_invokestatic, stp_ireturn, stp_lreturn, stp_return_, lg, lset, okl, spl, wd, c1, cnd, tg, swT, swL, f4_0, f4_1, f4_2, f4_3, f2_0, f2_1, List.mem_cons, List.not_mem_nil, List.length_cons, List.length_nil, List.cons_append, List.nil_append, Nat.reduceAdd, Nat.reduceMul, Nat.reduceLT, Nat.reduceEqDiff, Nat.reduceLeDiff, Int.reduceAdd, Int.reduceNeg, Int.reduceToNat, Int.cast_ofNat_Int, Int.reduceNatCast, Int.toNat_zero, Int.toNat_one, Int.reduceLE, Int.reduceLT, Int.reduceEq, Int.zero_add, Int.add_zero, or_false, false_or, or_true, true_or, and_true, true_and, and_false, false_and, reduceIte, not_true_eq_false, not_false_eq_true, forall_const, false_implies, true_implies, implies_true, ne_eq, reduceCtorEq, List.all_cons, List.all_nil, Bool.and_true, Bool.and_self, decide_eq_true_eq, decide_true, dX5_worstLeft_0, dX5_worstLeft_1, dX5_worstLeft_2, dX5_worstLeft_3, dX5_worstLeft_5, dX5_worstLeft_7, dX5_worstLeft_9, dX5_worstLeft_12, dX5_worstLeft_13, dX5_worstLeft_15, dX5_worstLeft_16, dX5_worstLeft_17, dX5_worstLeft_18, dX5_worstLeft_19, dX5_worstLeft_22, dX5_worstLeft_23, dX5_worstLeft_24, dX5_worstLeft_25, dX5_worstLeft_26, dX5_worstLeft_27, dX5_worstLeft_30, dX5_worstLeft_32, dX5_worstLeft_33, dX5_worstLeft_34, dX5_worstLeft_35, dX5_worstLeft_38, dX5_worstLeft_41, dX5_worstLeft_42, dX5_worstLeft_45, dX5_worstLeft_48, dX5_worstLeft_49, FX5_47, G_X5_worstLeft_235, G_X5_worstLeft_151]
    repeat' (first | exact trivial | omega | (with_reducible assumption) | exact absurd trivial (by with_reducible assumption) | contradiction | apply And.intro | intro _)
  | succ m ih =>
    intro k hk
    have h := ih (k + 1) (by omega)
    rw [show ((k + 1 : Nat) : Int) = (k : Int) + 1 by omega] at h
    simp only [maxC] at h
    have hm := maxC_in (p := p) (φ := fun g => alk p L n (L g n)) (b := 10) (by omega) (fun g => alk_in _ _ _ _) k
    have eb := bits_i p k 10 (by omega)
    obtain ⟨k7, l41⟩ := lkk k (by omega)
    by_cases z : p k = true
    · rw [if_pos z] at h eb
      have hv : rI μ (56 + k) n = L k n := hL k n (by omega) hn z
      have hr' := hr k (by omega) z
      have ha := alk_in p L n (L k n)
      have main : ∃ (p_1 : Nat → Bool) (L_1 : Nat → Nat → Int) (n' : Nat), ((bitsN p 10 : Nat) : Int) = ((bitsN p_1 10 : Nat) : Int) ∧ (n : Int) = n' ∧ n' ≤ 40 ∧ LK μ p_1 L_1 10 ∧ (∀ g, g < 10 → p_1 g = true → 0 ≤ L_1 g n' ∧ L_1 g n' ≤ 99) ∧ ((-2147483648 ≤ maxC p (fun g => alk p L n (L g n)) k ∧ maxC p (fun g => alk p L n (L g n)) k < 2147483648) ∧ (-2147483648 ≤ alk p_1 L_1 n' (L k n) ∧ alk p_1 L_1 n' (L k n) < 2147483648) ∧ V 5 [some (.inr (.inr 0)), some (.inl ((bitsN p 10 : Nat) : Int)), some (.inl (n : Int)), some (.inl (max (maxC p (fun g => alk p L n (L g n)) k) (alk p_1 L_1 n' (L k n)))), some (.inl ((k : Int) + 1))] [] μ) := ⟨p, L, n, rfl, rfl, hn, hL, hr, by omega, by omega, h⟩
      clear hr
      apply hV [5] 40
      simp only [InR, InL, inb, Int.toNat_natCast, wp1, wpc_z, wpc_s, stp_iconst, stp_bipush, stp_sipush, stp_lconst, stp_iload_n, stp_iload, stp_lload_n, stp_lload, stp_aload_n, stp_aload, stp_istore_n, stp_istore, stp_lstore_n, stp_lstore, stp_astore_n, stp_astore, stp_iinc, stp_iadd, stp_isub, stp_imul, stp_ineg, stp_idiv, stp_irem, stp_ladd, stp_lmul, stp_ldiv, stp_lrem, stp_ishl, stp_ishr, stp_iushr, stp_iand, stp_ior, stp_i2l, stp_i2b, stp_i2s, stp_lcmp, stp_dup, stp_dup2, stp_pop, stp_ifCond, stp_if_icmp, stp_goto, stp_tableswitch, stp_lookupswitch, stp_ldc, stp_ldc_w, stp_ldc2_w, stp_getstatic, stp_getfield, stp_putfield, stp_iaload, stp_baload, stp_iastore, stp_bastore, stp_aaload, stp_aastore, stp_invokevirtual, stp_invokestatic, stp_ireturn, stp_lreturn, stp_return_, lg, lset, okl, spl, wd, c1, cnd, tg, swT, swL, f4_0, f4_1, f4_2, f4_3, f2_0, f2_1, List.mem_cons, List.not_mem_nil, List.length_cons, List.length_nil, List.cons_append, List.nil_append, Nat.reduceAdd, Nat.reduceMul, Nat.reduceLT, Nat.reduceEqDiff, Nat.reduceLeDiff, Int.reduceAdd, Int.reduceNeg, Int.reduceToNat, Int.cast_ofNat_Int, Int.reduceNatCast, Int.toNat_zero, Int.toNat_one, Int.reduceLE, Int.reduceLT, Int.reduceEq, Int.zero_add, Int.add_zero, or_false, false_or, or_true, true_or, and_true, true_and, and_false, false_and, reduceIte, not_true_eq_false, not_false_eq_true, forall_const, false_implies, true_implies, implies_true, ne_eq, reduceCtorEq, List.all_cons, List.all_nil, Bool.and_true, Bool.and_self, decide_eq_true_eq, decide_true, dX5_worstLeft_0, dX5_worstLeft_1, dX5_worstLeft_2, dX5_worstLeft_3, dX5_worstLeft_5, dX5_worstLeft_7, dX5_worstLeft_9, dX5_worstLeft_12, dX5_worstLeft_13, dX5_worstLeft_15, dX5_worstLeft_16, dX5_worstLeft_17, dX5_worstLeft_18, dX5_worstLeft_19, dX5_worstLeft_22, dX5_worstLeft_23, dX5_worstLeft_24, dX5_worstLeft_25, dX5_worstLeft_26, dX5_worstLeft_27, dX5_worstLeft_30, dX5_worstLeft_32, dX5_worstLeft_33, dX5_worstLeft_34, dX5_worstLeft_35, dX5_worstLeft_38, dX5_worstLeft_41, dX5_worstLeft_42, dX5_worstLeft_45, dX5_worstLeft_48, dX5_worstLeft_49, FX5_47, G_X5_worstLeft_235, G_X5_worstLeft_151, kd_0, kd_55, ln_55, el_55, em, eb, k7, l41, hv, T5_alike, T_max]
      clear em eb
      repeat' (first | exact trivial | omega | (with_reducible assumption) | exact absurd trivial (by with_reducible assumption) | contradiction | apply And.intro | intro _)
    · rw [if_neg z] at h eb
      apply hV [5] 40
      simp only [InR, InL, inb, Int.toNat_natCast, wp1, wpc_z, wpc_s, stp_iconst, stp_bipush, stp_sipush, stp_lconst, stp_iload_n, stp_iload, stp_lload_n, stp_lload, stp_aload_n, stp_aload, stp_istore_n, stp_istore, stp_lstore_n, stp_lstore, stp_astore_n, stp_astore, stp_iinc, stp_iadd, stp_isub, stp_imul, stp_ineg, stp_idiv, stp_irem, stp_ladd, stp_lmul, stp_ldiv, stp_lrem, stp_ishl, stp_ishr, stp_iushr, stp_iand, stp_ior, stp_i2l, stp_i2b, stp_i2s, stp_lcmp, stp_dup, stp_dup2, stp_pop, stp_ifCond, stp_if_icmp, stp_goto, stp_tableswitch, stp_lookupswitch, stp_ldc, stp_ldc_w, stp_ldc2_w, stp_getstatic, stp_getfield, stp_putfield, stp_iaload, stp_baload, stp_iastore, stp_bastore, stp_aaload, stp_aastore, stp_invokevirtual, stp_invokestatic, stp_ireturn, stp_lreturn, stp_return_, lg, lset, okl, spl, wd, c1, cnd, tg, swT, swL, f4_0, f4_1, f4_2, f4_3, f2_0, f2_1, List.mem_cons, List.not_mem_nil, List.length_cons, List.length_nil, List.cons_append, List.nil_append, Nat.reduceAdd, Nat.reduceMul, Nat.reduceLT, Nat.reduceEqDiff, Nat.reduceLeDiff, Int.reduceAdd, Int.reduceNeg, Int.reduceToNat, Int.cast_ofNat_Int, Int.reduceNatCast, Int.toNat_zero, Int.toNat_one, Int.reduceLE, Int.reduceLT, Int.reduceEq, Int.zero_add, Int.add_zero, or_false, false_or, or_true, true_or, and_true, true_and, and_false, false_and, reduceIte, not_true_eq_false, not_false_eq_true, forall_const, false_implies, true_implies, implies_true, ne_eq, reduceCtorEq, List.all_cons, List.all_nil, Bool.and_true, Bool.and_self, decide_eq_true_eq, decide_true, dX5_worstLeft_0, dX5_worstLeft_1, dX5_worstLeft_2, dX5_worstLeft_3, dX5_worstLeft_5, dX5_worstLeft_7, dX5_worstLeft_9, dX5_worstLeft_12, dX5_worstLeft_13, dX5_worstLeft_15, dX5_worstLeft_16, dX5_worstLeft_17, dX5_worstLeft_18, dX5_worstLeft_19, dX5_worstLeft_22, dX5_worstLeft_23, dX5_worstLeft_24, dX5_worstLeft_25, dX5_worstLeft_26, dX5_worstLeft_27, dX5_worstLeft_30, dX5_worstLeft_32, dX5_worstLeft_33, dX5_worstLeft_34, dX5_worstLeft_35, dX5_worstLeft_38, dX5_worstLeft_41, dX5_worstLeft_42, dX5_worstLeft_45, dX5_worstLeft_48, dX5_worstLeft_49, FX5_47, G_X5_worstLeft_235, G_X5_worstLeft_151, em, eb]
      clear em eb
      repeat' (first | exact trivial | omega | (with_reducible assumption) | exact absurd trivial (by with_reducible assumption) | contradiction | apply And.intro | intro _)
def T5_worstLeft : TT := fun a μ K => match a with
  | [.inr (.inr o), .inl l, .inl n] => o = 0 ∧ (∃ (p : Nat → Bool) (L : Nat → Nat → Int) (n' : Nat), l = ((bitsN p 10 : Nat) : Int) ∧ n = n' ∧ n' ≤ 40 ∧ LK μ p L 10 ∧ (∀ g, g < 10 → p g = true → 0 ≤ L g n' ∧ L g n' ≤ 99) ∧ K [.inl (wst p L n')] μ)
  | _ => False
theorem rec_X5_worstLeft : ∀ a μ K, T5_worstLeft a μ K → ∃ k r, a = .inr (.inr k) :: r ∧ kd k = 5 := by
  intro a μ K h
  unfold T5_worstLeft at h
  split at h
  · exact ⟨_, _, rfl, by rw [h.1]; rfl⟩
  · exact h.elim
theorem gk_X5_worstLeft (l : Launch) : ∀ i n b T, G_X5_worstLeft i = some (n, b, T) → CallOK l 1 RX5 i n b T := by
  intro i n b T h
  have hm : (i, n, b, T) ∈ GL_X5_worstLeft := lk_mem h
  simp only [GL_X5_worstLeft, List.mem_cons, List.not_mem_nil, or_false, Prod.mk.injEq] at hm
  rcases hm with ⟨rfl, rfl, rfl, rfl⟩ | ⟨rfl, rfl, rfl, rfl⟩
  · exact CallOK.V (d := 1) (own := RX5) (i := 235) (n := 3) (ci := 5) (good_X5_alike l) (by decide) (by decide) rfl (by decide) rec_X5_alike (mg 533 (by decide +kernel) (by decide +kernel)) (mg 535 (by decide +kernel) (by decide +kernel)) (mgs 21 (by decide +kernel) (by decide +kernel)) (mg 1 (by decide +kernel) (by decide +kernel)) (mg 536 (by decide +kernel) (by decide +kernel)) (by decide +kernel)
  · exact CallOK.max (d := 1) (own := RX5) (i := 151) (by decide) (mg 419 (by decide +kernel) (by decide +kernel)) (mg 420 (by decide +kernel) (by decide +kernel)) (mg 13 (by decide +kernel) (by decide +kernel)) (mg 421 (by decide +kernel) (by decide +kernel))
set_option maxRecDepth 20000 in
set_option maxHeartbeats 4000000 in
theorem body_X5_worstLeft (o : Nat) (l : Int) (n : Int) (μ : Mem) (K : List AV → Mem → Prop) (V : Nat → List (Option AV) → List AV → Mem → Prop) (hV : Clos FX5 CX5 G_X5_worstLeft 1 K cX5_worstLeft V) (hT : o = 0 ∧ (∃ (p : Nat → Bool) (L : Nat → Nat → Int) (n' : Nat), l = ((bitsN p 10 : Nat) : Int) ∧ n = n' ∧ n' ≤ 40 ∧ LK μ p L 10 ∧ (∀ g, g < 10 → p g = true → 0 ≤ L g n' ∧ L g n' ≤ 99) ∧ K [.inl (wst p L n')] μ)) : V 0 [some (.inr (.inr o)), some (.inl l), some (.inl n), none, none] [] μ := by
  obtain ⟨rfl, p, L, n', rfl, rfl, hn, hL, hr, hK⟩ := hT
  have h := lp_worst V K hV μ p L n' hn hL hr hK 10 0 (by omega)
  simp only [maxC] at h
  apply hV [5] 20
  simp only [InR, InL, inb, Int.toNat_natCast, wp1, wpc_z, wpc_s, stp_iconst, stp_bipush, stp_sipush, stp_lconst, stp_iload_n, stp_iload, stp_lload_n, stp_lload, stp_aload_n, stp_aload, stp_istore_n, stp_istore, stp_lstore_n, stp_lstore, stp_astore_n, stp_astore, stp_iinc, stp_iadd, stp_isub, stp_imul, stp_ineg, stp_idiv, stp_irem, stp_ladd, stp_lmul, stp_ldiv, stp_lrem, stp_ishl, stp_ishr, stp_iushr, stp_iand, stp_ior, stp_i2l, stp_i2b, stp_i2s, stp_lcmp, stp_dup, stp_dup2, stp_pop, stp_ifCond, stp_if_icmp, stp_goto, stp_tableswitch, stp_lookupswitch, stp_ldc, stp_ldc_w, stp_ldc2_w, stp_getstatic, stp_getfield, stp_putfield, stp_iaload, stp_baload, stp_iastore, stp_bastore, stp_aaload, stp_aastore, stp_invokevirtual, stp_invokestatic, stp_ireturn, stp_lreturn, stp_return_, lg, lset, okl, spl, wd, c1, cnd, tg, swT, swL, f4_0, f4_1, f4_2, f4_3, f2_0, f2_1, List.mem_cons, List.not_mem_nil, List.length_cons, List.length_nil, List.cons_append, List.nil_append, Nat.reduceAdd, Nat.reduceMul, Nat.reduceLT, Nat.reduceEqDiff, Nat.reduceLeDiff, Int.reduceAdd, Int.reduceNeg, Int.reduceToNat, Int.cast_ofNat_Int, Int.reduceNatCast, Int.toNat_zero, Int.toNat_one, Int.reduceLE, Int.reduceLT, Int.reduceEq, Int.zero_add, Int.add_zero, or_false, false_or, or_true, true_or, and_true, true_and, and_false, false_and, reduceIte, not_true_eq_false, not_false_eq_true, forall_const, false_implies, true_implies, implies_true, ne_eq, reduceCtorEq, List.all_cons, List.all_nil, Bool.and_true, Bool.and_self, decide_eq_true_eq, decide_true, dX5_worstLeft_0, dX5_worstLeft_1, dX5_worstLeft_2, dX5_worstLeft_3, dX5_worstLeft_5, dX5_worstLeft_7, dX5_worstLeft_9, dX5_worstLeft_12, dX5_worstLeft_13, dX5_worstLeft_15, dX5_worstLeft_16, dX5_worstLeft_17, dX5_worstLeft_18, dX5_worstLeft_19, dX5_worstLeft_22, dX5_worstLeft_23, dX5_worstLeft_24, dX5_worstLeft_25, dX5_worstLeft_26, dX5_worstLeft_27, dX5_worstLeft_30, dX5_worstLeft_32, dX5_worstLeft_33, dX5_worstLeft_34, dX5_worstLeft_35, dX5_worstLeft_38, dX5_worstLeft_41, dX5_worstLeft_42, dX5_worstLeft_45, dX5_worstLeft_48, dX5_worstLeft_49, FX5_47, G_X5_worstLeft_235, G_X5_worstLeft_151]
  exact h
theorem good_X5_worstLeft (l : Launch) : Good l 1 yX5_worstLeft cX5_worstLeft 5 (some .int) T5_worstLeft := by
  refine Good.mk 1 (by decide) rfl (by simp [retOK]) FOK5 COK5 (gk_X5_worstLeft l) ?_ ?_
  · intro a μ K h
    unfold T5_worstLeft at h
    split at h
    · simp [entl]
    · exact h.elim
  · intro a μ K V hV h
    unfold T5_worstLeft at h
    split at h
    · exact body_X5_worstLeft _ _ _ μ K V hV h
    · exact h.elim

