/-! the steps, a row each, for simp -/
section
variable (F : Nat → Option (Nat × Nat × Nat × Nat)) (Cn : Nat → Option AV) (G : Nat → Option (Nat × Bool × TT)) (rk : Nat) (K : List AV → Mem → Prop) (go : Nat → List (Option AV) → List AV → Mem → Prop) (pc : Nat) (L : List (Option AV)) (stk : List AV) (μ : Mem) (len : Nat)
theorem stp_iconst (n : Int) : stp F Cn G rk K go pc L stk μ len (.iconst n) = (len = 1 ∧ go (pc + 1) L (.inl n :: stk) μ) := rfl
theorem stp_bipush (n : Int) : stp F Cn G rk K go pc L stk μ len (.bipush n) = (len = 2 ∧ -128 ≤ n ∧ n < 128 ∧ go (pc + 2) L (.inl n :: stk) μ) := rfl
theorem stp_sipush (n : Int) : stp F Cn G rk K go pc L stk μ len (.sipush n) = (len = 3 ∧ -32768 ≤ n ∧ n < 32768 ∧ go (pc + 3) L (.inl n :: stk) μ) := rfl
theorem stp_lconst (n : Fin 2) : stp F Cn G rk K go pc L stk μ len (.lconst n) = (len = 1 ∧ go (pc + 1) L (.inr (.inl ((n : Nat) : Int)) :: stk) μ) := rfl
theorem stp_iload_n (n : Fin 4) : stp F Cn G rk K go pc L stk μ len (.iload_n n) = (len = 1 ∧ (match lg L (n : Nat) with | some (.inl x) => go (pc + 1) L (.inl x :: stk) μ | _ => False)) := rfl
theorem stp_iload (n : Nat) : stp F Cn G rk K go pc L stk μ len (.iload n) = (len = 2 ∧ (match lg L n with | some (.inl x) => go (pc + 2) L (.inl x :: stk) μ | _ => False)) := rfl
theorem stp_lload_n (n : Fin 4) : stp F Cn G rk K go pc L stk μ len (.lload_n n) = (len = 1 ∧ (match lg L (n : Nat) with | some (.inr (.inl x)) => go (pc + 1) L (.inr (.inl x) :: stk) μ | _ => False)) := rfl
theorem stp_lload (n : Nat) : stp F Cn G rk K go pc L stk μ len (.lload n) = (len = 2 ∧ (match lg L n with | some (.inr (.inl x)) => go (pc + 2) L (.inr (.inl x) :: stk) μ | _ => False)) := rfl
theorem stp_aload_n (n : Fin 4) : stp F Cn G rk K go pc L stk μ len (.aload_n n) = (len = 1 ∧ (match lg L (n : Nat) with | some (.inr (.inr x)) => go (pc + 1) L (.inr (.inr x) :: stk) μ | _ => False)) := rfl
theorem stp_aload (n : Nat) : stp F Cn G rk K go pc L stk μ len (.aload n) = (len = 2 ∧ (match lg L n with | some (.inr (.inr x)) => go (pc + 2) L (.inr (.inr x) :: stk) μ | _ => False)) := rfl
theorem stp_istore_n (n : Fin 4) : stp F Cn G rk K go pc L stk μ len (.istore_n n) = (len = 1 ∧ (n : Nat) < L.length ∧ okl L (n : Nat) ∧ (match stk with | .inl x :: r => go (pc + 1) (lset L (n : Nat) (some (.inl x))) r μ | _ => False)) := rfl
theorem stp_istore (n : Nat) : stp F Cn G rk K go pc L stk μ len (.istore n) = (len = 2 ∧ n < L.length ∧ okl L n ∧ (match stk with | .inl x :: r => go (pc + 2) (lset L n (some (.inl x))) r μ | _ => False)) := rfl
theorem stp_lstore_n (n : Fin 4) : stp F Cn G rk K go pc L stk μ len (.lstore_n n) = (len = 1 ∧ (n : Nat) + 1 < L.length ∧ okl L (n : Nat) ∧ (match stk with | .inr (.inl x) :: r => go (pc + 1) (lset (lset L (n : Nat) (some (.inr (.inl x)))) ((n : Nat) + 1) none) r μ | _ => False)) := rfl
theorem stp_lstore (n : Nat) : stp F Cn G rk K go pc L stk μ len (.lstore n) = (len = 2 ∧ n + 1 < L.length ∧ okl L n ∧ (match stk with | .inr (.inl x) :: r => go (pc + 2) (lset (lset L n (some (.inr (.inl x)))) (n + 1) none) r μ | _ => False)) := rfl
theorem stp_astore_n (n : Fin 4) : stp F Cn G rk K go pc L stk μ len (.astore_n n) = (len = 1 ∧ (n : Nat) < L.length ∧ okl L (n : Nat) ∧ (match stk with | .inr (.inr x) :: r => go (pc + 1) (lset L (n : Nat) (some (.inr (.inr x)))) r μ | _ => False)) := rfl
theorem stp_astore (n : Nat) : stp F Cn G rk K go pc L stk μ len (.astore n) = (len = 2 ∧ n < L.length ∧ okl L n ∧ (match stk with | .inr (.inr x) :: r => go (pc + 2) (lset L n (some (.inr (.inr x)))) r μ | _ => False)) := rfl
theorem stp_iinc (n : Nat) (c : Int) : stp F Cn G rk K go pc L stk μ len (.iinc n c) = (len = 3 ∧ n < L.length ∧ okl L n ∧ (match lg L n with | some (.inl x) => go (pc + 3) (lset L n (some (.inl (x + c)))) stk μ | _ => False)) := rfl
theorem stp_iadd  : stp F Cn G rk K go pc L stk μ len .iadd = (len = 1 ∧ (match stk with | .inl b :: .inl a :: r => go (pc + 1) L (.inl (a + b) :: r) μ | _ => False)) := rfl
theorem stp_isub  : stp F Cn G rk K go pc L stk μ len .isub = (len = 1 ∧ (match stk with | .inl b :: .inl a :: r => go (pc + 1) L (.inl (a - b) :: r) μ | _ => False)) := rfl
theorem stp_imul  : stp F Cn G rk K go pc L stk μ len .imul = (len = 1 ∧ (match stk with | .inl b :: .inl a :: r => go (pc + 1) L (.inl (a * b) :: r) μ | _ => False)) := rfl
theorem stp_ineg  : stp F Cn G rk K go pc L stk μ len .ineg = (len = 1 ∧ (match stk with | .inl a :: r => go (pc + 1) L (.inl (-a) :: r) μ | _ => False)) := rfl
theorem stp_idiv  : stp F Cn G rk K go pc L stk μ len .idiv = (len = 1 ∧ (match stk with | .inl b :: .inl a :: r => (0 ≤ a ∧ a < 2147483648 ∧ 0 < b ∧ b < 2147483648) ∧ go (pc + 1) L (.inl (a / b) :: r) μ | _ => False)) := rfl
theorem stp_irem  : stp F Cn G rk K go pc L stk μ len .irem = (len = 1 ∧ (match stk with | .inl b :: .inl a :: r => (0 ≤ a ∧ a < 2147483648 ∧ 0 < b ∧ b < 2147483648) ∧ go (pc + 1) L (.inl (a % b) :: r) μ | _ => False)) := rfl
theorem stp_ladd  : stp F Cn G rk K go pc L stk μ len .ladd = (len = 1 ∧ (match stk with | .inr (.inl b) :: .inr (.inl a) :: r => go (pc + 1) L (.inr (.inl (a + b)) :: r) μ | _ => False)) := rfl
theorem stp_lmul  : stp F Cn G rk K go pc L stk μ len .lmul = (len = 1 ∧ (match stk with | .inr (.inl b) :: .inr (.inl a) :: r => go (pc + 1) L (.inr (.inl (a * b)) :: r) μ | _ => False)) := rfl
theorem stp_ldiv  : stp F Cn G rk K go pc L stk μ len .ldiv = (len = 1 ∧ (match stk with | .inr (.inl b) :: .inr (.inl a) :: r => (0 ≤ a ∧ a < 9223372036854775808 ∧ 0 < b ∧ b < 9223372036854775808) ∧ go (pc + 1) L (.inr (.inl (a / b)) :: r) μ | _ => False)) := rfl
theorem stp_lrem  : stp F Cn G rk K go pc L stk μ len .lrem = (len = 1 ∧ (match stk with | .inr (.inl b) :: .inr (.inl a) :: r => (0 ≤ a ∧ a < 9223372036854775808 ∧ 0 < b ∧ b < 9223372036854775808) ∧ go (pc + 1) L (.inr (.inl (a % b)) :: r) μ | _ => False)) := rfl
theorem stp_ishl  : stp F Cn G rk K go pc L stk μ len .ishl = (len = 1 ∧ (match stk with | .inl b :: .inl a :: r => (0 ≤ b ∧ b < 31 ∧ 0 ≤ a ∧ a * 2 ^ b.toNat < 2147483648) ∧ go (pc + 1) L (.inl (a * 2 ^ b.toNat) :: r) μ | _ => False)) := rfl
theorem stp_ishr  : stp F Cn G rk K go pc L stk μ len .ishr = (len = 1 ∧ (match stk with | .inl b :: .inl a :: r => (0 ≤ b ∧ b < 32) ∧ go (pc + 1) L (.inl ((Int.bmod a 4294967296) / 2 ^ b.toNat) :: r) μ | _ => False)) := rfl
theorem stp_iushr  : stp F Cn G rk K go pc L stk μ len .iushr = (len = 1 ∧ (match stk with | .inl b :: .inl a :: r => (0 < b ∧ b < 32) ∧ go (pc + 1) L (.inl ((a % 4294967296) / 2 ^ b.toNat) :: r) μ | _ => False)) := rfl
theorem stp_iand  : stp F Cn G rk K go pc L stk μ len .iand = (len = 1 ∧ (match stk with | .inl b :: .inl a :: r => (if b = 1 then go (pc + 1) L (.inl (a % 2) :: r) μ else if b = 32767 then go (pc + 1) L (.inl (a % 32768) :: r) μ else (0 ≤ a ∧ a < 2147483648 ∧ 0 ≤ b ∧ b < 2147483648) ∧ go (pc + 1) L (.inl (((a.toNat &&& b.toNat : Nat)) : Int) :: r) μ) | _ => False)) := rfl
theorem stp_ior  : stp F Cn G rk K go pc L stk μ len .ior = (len = 1 ∧ (match stk with | .inl b :: .inl a :: r => (0 ≤ a ∧ a < 2147483648 ∧ 0 ≤ b ∧ b < 2147483648) ∧ go (pc + 1) L (.inl (((a.toNat ||| b.toNat : Nat)) : Int) :: r) μ | _ => False)) := rfl
theorem stp_i2l  : stp F Cn G rk K go pc L stk μ len .i2l = (len = 1 ∧ (match stk with | .inl a :: r => InR a ∧ go (pc + 1) L (.inr (.inl a) :: r) μ | _ => False)) := rfl
theorem stp_i2b  : stp F Cn G rk K go pc L stk μ len .i2b = (len = 1 ∧ (match stk with | .inl a :: r => go (pc + 1) L (.inl (Int.bmod a 256) :: r) μ | _ => False)) := rfl
theorem stp_i2s  : stp F Cn G rk K go pc L stk μ len .i2s = (len = 1 ∧ (match stk with | .inl a :: r => go (pc + 1) L (.inl (Int.bmod a 65536) :: r) μ | _ => False)) := rfl
theorem stp_lcmp  : stp F Cn G rk K go pc L stk μ len .lcmp = (len = 1 ∧ (match stk with | .inr (.inl b) :: .inr (.inl a) :: r => InL a ∧ InL b ∧ (a < b → go (pc + 1) L (.inl (-1) :: r) μ) ∧ (a = b → go (pc + 1) L (.inl 0 :: r) μ) ∧ (b < a → go (pc + 1) L (.inl 1 :: r) μ) | _ => False)) := rfl
theorem stp_dup  : stp F Cn G rk K go pc L stk μ len .dup = (len = 1 ∧ (match stk with | v :: r => c1 v ∧ go (pc + 1) L (v :: v :: r) μ | _ => False)) := rfl
theorem stp_dup2  : stp F Cn G rk K go pc L stk μ len .dup2 = (len = 1 ∧ (match stk with | v :: w :: r => c1 v ∧ c1 w ∧ go (pc + 1) L (v :: w :: v :: w :: r) μ | _ => False)) := rfl
theorem stp_pop  : stp F Cn G rk K go pc L stk μ len .pop = (len = 1 ∧ (match stk with | v :: r => c1 v ∧ go (pc + 1) L r μ | _ => False)) := rfl
theorem stp_ifCond (c : Jvm.ClassFile.Cond) (off : Int) : stp F Cn G rk K go pc L stk μ len (.ifCond c off) = (len = 3 ∧ 0 ≤ (pc : Int) + off ∧ (match stk with | .inl a :: r => InR a ∧ (cnd c a 0 → go (tg pc off) L r μ) ∧ (¬ cnd c a 0 → go (pc + 3) L r μ) | _ => False)) := rfl
theorem stp_if_icmp (c : Jvm.ClassFile.Cond) (off : Int) : stp F Cn G rk K go pc L stk μ len (.if_icmp c off) = (len = 3 ∧ 0 ≤ (pc : Int) + off ∧ (match stk with | .inl b :: .inl a :: r => InR a ∧ InR b ∧ (cnd c a b → go (tg pc off) L r μ) ∧ (¬ cnd c a b → go (pc + 3) L r μ) | _ => False)) := rfl
theorem stp_goto (off : Int) : stp F Cn G rk K go pc L stk μ len (.goto off) = (len = 3 ∧ 0 ≤ (pc : Int) + off ∧ go (tg pc off) L stk μ) := rfl
theorem stp_tableswitch (d lo hi : Int) (os : Array Int) : stp F Cn G rk K go pc L stk μ len (.tableswitch d lo hi os) = ((match stk with | .inl a :: r => InR a ∧ (os.toList.all (fun o => decide (0 ≤ (pc : Int) + o)) = true ∧ 0 ≤ (pc : Int) + d ∧ (os.size : Int) = hi - lo + 1) ∧ ((a < lo ∨ hi < a) → go (tg pc d) L r μ) ∧ swT (fun o => go (tg pc o) L r μ) a lo os.toList | _ => False)) := rfl
theorem stp_lookupswitch (d : Int) (ps : Array (Int × Int)) : stp F Cn G rk K go pc L stk μ len (.lookupswitch d ps) = ((match stk with | .inl a :: r => InR a ∧ ((ps.toList.zip (ps.toList.drop 1)).all (fun (a, next) => a.1 < next.1) = true ∧ 0 ≤ (pc : Int) + d ∧ ps.toList.all (fun o => decide (0 ≤ (pc : Int) + o.2)) = true) ∧ swL (fun o => go (tg pc o) L r μ) d a ps.toList | _ => False)) := rfl
theorem stp_ldc (i : Nat) : stp F Cn G rk K go pc L stk μ len (.ldc i) = (len = 2 ∧ (match Cn i with | some (.inl v) => go (pc + 2) L (.inl v :: stk) μ | some (.inr (.inr v)) => 110 ≤ v ∧ go (pc + 2) L (.inr (.inr v) :: stk) μ | _ => False)) := rfl
theorem stp_ldc_w (i : Nat) : stp F Cn G rk K go pc L stk μ len (.ldc_w i) = (len = 3 ∧ (match Cn i with | some (.inl v) => go (pc + 3) L (.inl v :: stk) μ | _ => False)) := rfl
theorem stp_ldc2_w (i : Nat) : stp F Cn G rk K go pc L stk μ len (.ldc2_w i) = (len = 3 ∧ (match Cn i with | some (.inr (.inl v)) => go (pc + 3) L (.inr (.inl v) :: stk) μ | _ => False)) := rfl
theorem stp_getstatic (i : Nat) : stp F Cn G rk K go pc L stk μ len (.getstatic i) = (len = 3 ∧ (match Cn i with | some (.inr (.inr v)) => v < 110 ∧ go (pc + 3) L (.inr (.inr v) :: stk) μ | _ => False)) := rfl
theorem stp_getfield (i : Nat) : stp F Cn G rk K go pc L stk μ len (.getfield i) = (len = 3 ∧ (match stk with | .inr (.inr k) :: r => (match F i with | some (ci, j, so, off) => kd k = ci ∧ (if so = 2 then go (pc + 3) L (.inr (.inr (k + off)) :: r) μ else if so = 1 then go (pc + 3) L (.inr (.inl (rI μ k j)) :: r) μ else go (pc + 3) L (.inl (rI μ k j) :: r) μ) | _ => False) | _ => False)) := rfl
theorem stp_putfield (i : Nat) : stp F Cn G rk K go pc L stk μ len (.putfield i) = (len = 3 ∧ (match F i with | some (ci, j, so, _) => (match stk with | .inl v :: .inr (.inr k) :: r => kd k = ci ∧ (so = 0 ∨ (so = 3 ∧ (v = 0 ∨ v = 1))) ∧ go (pc + 3) L r (wI μ k j v) | .inr (.inl v) :: .inr (.inr k) :: r => kd k = ci ∧ so = 1 ∧ go (pc + 3) L r (wI μ k j v) | _ => False) | _ => False)) := rfl
theorem stp_iaload  : stp F Cn G rk K go pc L stk μ len .iaload = (len = 1 ∧ (match stk with | .inl j :: .inr (.inr k) :: r => (if kd k = 13 then inb j 5 ∧ go (pc + 1) L (.inl (stv k j.toNat) :: r) μ else kd k = 7 ∧ inb j (ln k) ∧ go (pc + 1) L (.inl (rI μ k j.toNat) :: r) μ) | _ => False)) := rfl
theorem stp_baload  : stp F Cn G rk K go pc L stk μ len .baload = (len = 1 ∧ (match stk with | .inl j :: .inr (.inr k) :: r => (kd k = 8 ∨ kd k = 9) ∧ inb j (ln k) ∧ go (pc + 1) L (.inl (rI μ k j.toNat) :: r) μ | _ => False)) := rfl
theorem stp_iastore  : stp F Cn G rk K go pc L stk μ len .iastore = (len = 1 ∧ (match stk with | .inl v :: .inl j :: .inr (.inr k) :: r => kd k = 7 ∧ inb j (ln k) ∧ go (pc + 1) L r (wI μ k j.toNat v) | _ => False)) := rfl
theorem stp_bastore  : stp F Cn G rk K go pc L stk μ len .bastore = (len = 1 ∧ (match stk with | .inl v :: .inl j :: .inr (.inr k) :: r => ((kd k = 8 ∧ -128 ≤ v ∧ v < 128) ∨ (kd k = 9 ∧ (v = 0 ∨ v = 1))) ∧ inb j (ln k) ∧ go (pc + 1) L r (wI μ k j.toNat v) | _ => False)) := rfl
theorem stp_aaload  : stp F Cn G rk K go pc L stk μ len .aaload = (len = 1 ∧ (match stk with | .inl j :: .inr (.inr k) :: r => (kd k = 12 ∨ kd k = 10 ∨ kd k = 11 ∨ kd k = 15) ∧ inb j (ln k) ∧ go (pc + 1) L (.inr (.inr (el μ k j.toNat)) :: r) μ | _ => False)) := rfl
theorem stp_aastore  : stp F Cn G rk K go pc L stk μ len .aastore = (len = 1 ∧ (match stk with | .inr (.inr v) :: .inl j :: .inr (.inr k) :: r => kd k = 12 ∧ inb j (ln k) ∧ kd v = 7 ∧ go (pc + 1) L r (wR μ k j.toNat v) | _ => False)) := rfl
theorem stp_invokevirtual (i : Nat) : stp F Cn G rk K go pc L stk μ len (.invokevirtual i) = (len = 3 ∧ (match G i with | some (n, false, T) => (match spl n stk [] with | some (a, r) => wd r ≤ 8 ∧ T a μ (fun v μ' => go (pc + 3) L (v ++ r) μ') | none => False) | _ => False)) := rfl
theorem stp_invokestatic (i : Nat) : stp F Cn G rk K go pc L stk μ len (.invokestatic i) = (len = 3 ∧ (match G i with | some (n, true, T) => (match spl n stk [] with | some (a, r) => wd r ≤ 8 ∧ T a μ (fun v μ' => go (pc + 3) L (v ++ r) μ') | none => False) | _ => False)) := rfl
theorem stp_ireturn  : stp F Cn G rk K go pc L stk μ len .ireturn = (len = 1 ∧ (match stk with | [.inl v] => (rk = 1 ∨ (rk = 2 ∧ (v = 0 ∨ v = 1))) ∧ K [.inl v] μ | _ => False)) := rfl
theorem stp_lreturn  : stp F Cn G rk K go pc L stk μ len .lreturn = (len = 1 ∧ (match stk with | [.inr (.inl v)] => rk = 3 ∧ K [.inr (.inl v)] μ | _ => False)) := rfl
theorem stp_return_  : stp F Cn G rk K go pc L stk μ len .return_ = (len = 1 ∧ (match stk with | [] => rk = 0 ∧ K [] μ | _ => False)) := rfl
end
theorem f4_0 : ((0 : Fin 4) : Nat) = 0 := rfl
theorem f4_1 : ((1 : Fin 4) : Nat) = 1 := rfl
theorem f4_2 : ((2 : Fin 4) : Nat) = 2 := rfl
theorem f4_3 : ((3 : Fin 4) : Nat) = 3 := rfl
theorem f2_0 : ((0 : Fin 2) : Nat) = 0 := rfl
theorem f2_1 : ((1 : Fin 2) : Nat) = 1 := rfl
section
variable (F : Nat → Option (Nat × Nat × Nat × Nat)) (Cn : Nat → Option AV) (G : Nat → Option (Nat × Bool × TT)) (rk : Nat) (K : List AV → Mem → Prop) (b : ByteArray) (stops : List Nat) (V : Nat → List (Option AV) → List AV → Mem → Prop) (n pc : Nat) (L : List (Option AV)) (stk : List AV) (μ : Mem)
theorem wpc_z : wpc F Cn G rk K b stops V 0 pc L stk μ = V pc L stk μ := rfl
theorem wpc_s : wpc F Cn G rk K b stops V (n + 1) pc L stk μ = (if pc ∈ stops then V pc L stk μ else match decode b pc with
    | .ok (i, len) => stp F Cn G rk K (wpc F Cn G rk K b stops V n) pc L stk μ len i
    | _ => False) := rfl
end
