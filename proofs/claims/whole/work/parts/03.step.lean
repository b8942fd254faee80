/-! THE STEPS of the abstract machine: what must hold ahead of an instruction so that 'go' holds behind it -/
abbrev TT : Type := List AV → Mem → (List AV → Mem → Prop) → Prop
def InR (a : Int) : Prop := -2147483648 ≤ a ∧ a < 2147483648
def InL (a : Int) : Prop := -9223372036854775808 ≤ a ∧ a < 9223372036854775808
def inb (j : Int) (n : Nat) : Prop := 0 ≤ j ∧ j < n
def c1 : AV → Prop
  | .inr (.inl _) => False
  | _ => True
def wd : List AV → Nat
  | [] => 0
  | .inr (.inl _) :: r => 2 + wd r
  | _ :: r => 1 + wd r
def spl : Nat → List AV → List AV → Option (List AV × List AV)
  | 0, s, acc => some (acc, s)
  | _ + 1, [], _ => none
  | n + 1, v :: s, acc => spl n s (v :: acc)
def cnd (c : Jvm.ClassFile.Cond) (a b : Int) : Prop := match c with
  | .eq => a = b
  | .ne => a ≠ b
  | .lt => a < b
  | .ge => b ≤ a
  | .gt => b < a
  | .le => a ≤ b
def tg (pc : Nat) (off : Int) : Nat := ((pc : Int) + off).toNat
def swT (go : Int → Prop) (x : Int) : Int → List Int → Prop
  | _, [] => True
  | lo, o :: r => (x = lo → go o) ∧ swT go x (lo + 1) r
def swL (go : Int → Prop) (d x : Int) : List (Int × Int) → Prop
  | [] => go d
  | q :: r => (x = q.1 → go q.2) ∧ (x ≠ q.1 → swL go d x r)
section
variable (F : Nat → Option (Nat × Nat × Nat × Nat)) (Cn : Nat → Option AV) (G : Nat → Option (Nat × Bool × TT)) (rk : Nat) (K : List AV → Mem → Prop)
def stp (go : Nat → List (Option AV) → List AV → Mem → Prop) (pc : Nat) (L : List (Option AV)) (stk : List AV) (μ : Mem) (len : Nat) : Instr → Prop
  | .iconst n => len = 1 ∧ go (pc + 1) L (.inl n :: stk) μ
  | .bipush n => len = 2 ∧ -128 ≤ n ∧ n < 128 ∧ go (pc + 2) L (.inl n :: stk) μ
  | .sipush n => len = 3 ∧ -32768 ≤ n ∧ n < 32768 ∧ go (pc + 3) L (.inl n :: stk) μ
  | .lconst n => len = 1 ∧ go (pc + 1) L (.inr (.inl ((n : Nat) : Int)) :: stk) μ
  | .iload_n n => len = 1 ∧ (match lg L (n : Nat) with | some (.inl x) => go (pc + 1) L (.inl x :: stk) μ | _ => False)
  | .iload n => len = 2 ∧ (match lg L n with | some (.inl x) => go (pc + 2) L (.inl x :: stk) μ | _ => False)
  | .lload_n n => len = 1 ∧ (match lg L (n : Nat) with | some (.inr (.inl x)) => go (pc + 1) L (.inr (.inl x) :: stk) μ | _ => False)
  | .lload n => len = 2 ∧ (match lg L n with | some (.inr (.inl x)) => go (pc + 2) L (.inr (.inl x) :: stk) μ | _ => False)
  | .aload_n n => len = 1 ∧ (match lg L (n : Nat) with | some (.inr (.inr x)) => go (pc + 1) L (.inr (.inr x) :: stk) μ | _ => False)
  | .aload n => len = 2 ∧ (match lg L n with | some (.inr (.inr x)) => go (pc + 2) L (.inr (.inr x) :: stk) μ | _ => False)
  | .istore_n n => len = 1 ∧ (n : Nat) < L.length ∧ okl L (n : Nat) ∧ (match stk with | .inl x :: r => go (pc + 1) (lset L (n : Nat) (some (.inl x))) r μ | _ => False)
  | .istore n => len = 2 ∧ n < L.length ∧ okl L n ∧ (match stk with | .inl x :: r => go (pc + 2) (lset L n (some (.inl x))) r μ | _ => False)
  | .lstore_n n => len = 1 ∧ (n : Nat) + 1 < L.length ∧ okl L (n : Nat) ∧ (match stk with | .inr (.inl x) :: r => go (pc + 1) (lset (lset L (n : Nat) (some (.inr (.inl x)))) ((n : Nat) + 1) none) r μ | _ => False)
  | .lstore n => len = 2 ∧ n + 1 < L.length ∧ okl L n ∧ (match stk with | .inr (.inl x) :: r => go (pc + 2) (lset (lset L n (some (.inr (.inl x)))) (n + 1) none) r μ | _ => False)
  | .astore_n n => len = 1 ∧ (n : Nat) < L.length ∧ okl L (n : Nat) ∧ (match stk with | .inr (.inr x) :: r => go (pc + 1) (lset L (n : Nat) (some (.inr (.inr x)))) r μ | _ => False)
  | .astore n => len = 2 ∧ n < L.length ∧ okl L n ∧ (match stk with | .inr (.inr x) :: r => go (pc + 2) (lset L n (some (.inr (.inr x)))) r μ | _ => False)
  | .iinc n c => len = 3 ∧ n < L.length ∧ okl L n ∧ (match lg L n with | some (.inl x) => go (pc + 3) (lset L n (some (.inl (x + c)))) stk μ | _ => False)
  | .iadd => len = 1 ∧ (match stk with | .inl b :: .inl a :: r => go (pc + 1) L (.inl (a + b) :: r) μ | _ => False)
  | .isub => len = 1 ∧ (match stk with | .inl b :: .inl a :: r => go (pc + 1) L (.inl (a - b) :: r) μ | _ => False)
  | .imul => len = 1 ∧ (match stk with | .inl b :: .inl a :: r => go (pc + 1) L (.inl (a * b) :: r) μ | _ => False)
  | .ineg => len = 1 ∧ (match stk with | .inl a :: r => go (pc + 1) L (.inl (-a) :: r) μ | _ => False)
  | .idiv => len = 1 ∧ (match stk with | .inl b :: .inl a :: r => (0 ≤ a ∧ a < 2147483648 ∧ 0 < b ∧ b < 2147483648) ∧ go (pc + 1) L (.inl (a / b) :: r) μ | _ => False)
  | .irem => len = 1 ∧ (match stk with | .inl b :: .inl a :: r => (0 ≤ a ∧ a < 2147483648 ∧ 0 < b ∧ b < 2147483648) ∧ go (pc + 1) L (.inl (a % b) :: r) μ | _ => False)
  | .ladd => len = 1 ∧ (match stk with | .inr (.inl b) :: .inr (.inl a) :: r => go (pc + 1) L (.inr (.inl (a + b)) :: r) μ | _ => False)
  | .lmul => len = 1 ∧ (match stk with | .inr (.inl b) :: .inr (.inl a) :: r => go (pc + 1) L (.inr (.inl (a * b)) :: r) μ | _ => False)
  | .ldiv => len = 1 ∧ (match stk with | .inr (.inl b) :: .inr (.inl a) :: r => (0 ≤ a ∧ a < 9223372036854775808 ∧ 0 < b ∧ b < 9223372036854775808) ∧ go (pc + 1) L (.inr (.inl (a / b)) :: r) μ | _ => False)
  | .lrem => len = 1 ∧ (match stk with | .inr (.inl b) :: .inr (.inl a) :: r => (0 ≤ a ∧ a < 9223372036854775808 ∧ 0 < b ∧ b < 9223372036854775808) ∧ go (pc + 1) L (.inr (.inl (a % b)) :: r) μ | _ => False)
  | .ishl => len = 1 ∧ (match stk with | .inl b :: .inl a :: r => (0 ≤ b ∧ b < 31 ∧ 0 ≤ a ∧ a * 2 ^ b.toNat < 2147483648) ∧ go (pc + 1) L (.inl (a * 2 ^ b.toNat) :: r) μ | _ => False)
  | .ishr => len = 1 ∧ (match stk with | .inl b :: .inl a :: r => (0 ≤ b ∧ b < 32) ∧ go (pc + 1) L (.inl ((Int.bmod a 4294967296) / 2 ^ b.toNat) :: r) μ | _ => False)
  | .iushr => len = 1 ∧ (match stk with | .inl b :: .inl a :: r => (0 < b ∧ b < 32) ∧ go (pc + 1) L (.inl ((a % 4294967296) / 2 ^ b.toNat) :: r) μ | _ => False)
  | .iand => len = 1 ∧ (match stk with | .inl b :: .inl a :: r => (if b = 1 then go (pc + 1) L (.inl (a % 2) :: r) μ else if b = 32767 then go (pc + 1) L (.inl (a % 32768) :: r) μ else (0 ≤ a ∧ a < 2147483648 ∧ 0 ≤ b ∧ b < 2147483648) ∧ go (pc + 1) L (.inl (((a.toNat &&& b.toNat : Nat)) : Int) :: r) μ) | _ => False)
  | .ior => len = 1 ∧ (match stk with | .inl b :: .inl a :: r => (0 ≤ a ∧ a < 2147483648 ∧ 0 ≤ b ∧ b < 2147483648) ∧ go (pc + 1) L (.inl (((a.toNat ||| b.toNat : Nat)) : Int) :: r) μ | _ => False)
  | .i2l => len = 1 ∧ (match stk with | .inl a :: r => InR a ∧ go (pc + 1) L (.inr (.inl a) :: r) μ | _ => False)
  | .i2b => len = 1 ∧ (match stk with | .inl a :: r => go (pc + 1) L (.inl (Int.bmod a 256) :: r) μ | _ => False)
  | .i2s => len = 1 ∧ (match stk with | .inl a :: r => go (pc + 1) L (.inl (Int.bmod a 65536) :: r) μ | _ => False)
  | .lcmp => len = 1 ∧ (match stk with | .inr (.inl b) :: .inr (.inl a) :: r => InL a ∧ InL b ∧ (a < b → go (pc + 1) L (.inl (-1) :: r) μ) ∧ (a = b → go (pc + 1) L (.inl 0 :: r) μ) ∧ (b < a → go (pc + 1) L (.inl 1 :: r) μ) | _ => False)
  | .dup => len = 1 ∧ (match stk with | v :: r => c1 v ∧ go (pc + 1) L (v :: v :: r) μ | _ => False)
  | .dup2 => len = 1 ∧ (match stk with | v :: w :: r => c1 v ∧ c1 w ∧ go (pc + 1) L (v :: w :: v :: w :: r) μ | _ => False)
  | .pop => len = 1 ∧ (match stk with | v :: r => c1 v ∧ go (pc + 1) L r μ | _ => False)
  | .ifCond c off => len = 3 ∧ 0 ≤ (pc : Int) + off ∧ (match stk with | .inl a :: r => InR a ∧ (cnd c a 0 → go (tg pc off) L r μ) ∧ (¬ cnd c a 0 → go (pc + 3) L r μ) | _ => False)
  | .if_icmp c off => len = 3 ∧ 0 ≤ (pc : Int) + off ∧ (match stk with | .inl b :: .inl a :: r => InR a ∧ InR b ∧ (cnd c a b → go (tg pc off) L r μ) ∧ (¬ cnd c a b → go (pc + 3) L r μ) | _ => False)
  | .goto off => len = 3 ∧ 0 ≤ (pc : Int) + off ∧ go (tg pc off) L stk μ
  | .tableswitch d lo hi os => (match stk with | .inl a :: r => InR a ∧ (os.toList.all (fun o => decide (0 ≤ (pc : Int) + o)) = true ∧ 0 ≤ (pc : Int) + d ∧ (os.size : Int) = hi - lo + 1) ∧ ((a < lo ∨ hi < a) → go (tg pc d) L r μ) ∧ swT (fun o => go (tg pc o) L r μ) a lo os.toList | _ => False)
  | .lookupswitch d ps => (match stk with | .inl a :: r => InR a ∧ ((ps.toList.zip (ps.toList.drop 1)).all (fun (a, next) => a.1 < next.1) = true ∧ 0 ≤ (pc : Int) + d ∧ ps.toList.all (fun o => decide (0 ≤ (pc : Int) + o.2)) = true) ∧ swL (fun o => go (tg pc o) L r μ) d a ps.toList | _ => False)
  | .ldc i => len = 2 ∧ (match Cn i with | some (.inl v) => go (pc + 2) L (.inl v :: stk) μ | some (.inr (.inr v)) => 110 ≤ v ∧ go (pc + 2) L (.inr (.inr v) :: stk) μ | _ => False)
  | .ldc_w i => len = 3 ∧ (match Cn i with | some (.inl v) => go (pc + 3) L (.inl v :: stk) μ | _ => False)
  | .ldc2_w i => len = 3 ∧ (match Cn i with | some (.inr (.inl v)) => go (pc + 3) L (.inr (.inl v) :: stk) μ | _ => False)
  | .getstatic i => len = 3 ∧ (match Cn i with | some (.inr (.inr v)) => v < 110 ∧ go (pc + 3) L (.inr (.inr v) :: stk) μ | _ => False)
  | .getfield i => len = 3 ∧ (match stk with | .inr (.inr k) :: r => (match F i with | some (ci, j, so, off) => kd k = ci ∧ (if so = 2 then go (pc + 3) L (.inr (.inr (k + off)) :: r) μ else if so = 1 then go (pc + 3) L (.inr (.inl (rI μ k j)) :: r) μ else go (pc + 3) L (.inl (rI μ k j) :: r) μ) | _ => False) | _ => False)
  | .putfield i => len = 3 ∧ (match F i with | some (ci, j, so, _) => (match stk with | .inl v :: .inr (.inr k) :: r => kd k = ci ∧ (so = 0 ∨ (so = 3 ∧ (v = 0 ∨ v = 1))) ∧ go (pc + 3) L r (wI μ k j v) | .inr (.inl v) :: .inr (.inr k) :: r => kd k = ci ∧ so = 1 ∧ go (pc + 3) L r (wI μ k j v) | _ => False) | _ => False)
  | .iaload => len = 1 ∧ (match stk with | .inl j :: .inr (.inr k) :: r => (if kd k = 13 then inb j 5 ∧ go (pc + 1) L (.inl (stv k j.toNat) :: r) μ else kd k = 7 ∧ inb j (ln k) ∧ go (pc + 1) L (.inl (rI μ k j.toNat) :: r) μ) | _ => False)
  | .baload => len = 1 ∧ (match stk with | .inl j :: .inr (.inr k) :: r => (kd k = 8 ∨ kd k = 9) ∧ inb j (ln k) ∧ go (pc + 1) L (.inl (rI μ k j.toNat) :: r) μ | _ => False)
  | .iastore => len = 1 ∧ (match stk with | .inl v :: .inl j :: .inr (.inr k) :: r => kd k = 7 ∧ inb j (ln k) ∧ go (pc + 1) L r (wI μ k j.toNat v) | _ => False)
  | .bastore => len = 1 ∧ (match stk with | .inl v :: .inl j :: .inr (.inr k) :: r => ((kd k = 8 ∧ -128 ≤ v ∧ v < 128) ∨ (kd k = 9 ∧ (v = 0 ∨ v = 1))) ∧ inb j (ln k) ∧ go (pc + 1) L r (wI μ k j.toNat v) | _ => False)
  | .aaload => len = 1 ∧ (match stk with | .inl j :: .inr (.inr k) :: r => (kd k = 12 ∨ kd k = 10 ∨ kd k = 11 ∨ kd k = 15) ∧ inb j (ln k) ∧ go (pc + 1) L (.inr (.inr (el μ k j.toNat)) :: r) μ | _ => False)
  | .aastore => len = 1 ∧ (match stk with | .inr (.inr v) :: .inl j :: .inr (.inr k) :: r => kd k = 12 ∧ inb j (ln k) ∧ kd v = 7 ∧ go (pc + 1) L r (wR μ k j.toNat v) | _ => False)
  | .invokevirtual i => len = 3 ∧ (match G i with | some (n, false, T) => (match spl n stk [] with | some (a, r) => wd r ≤ 8 ∧ T a μ (fun v μ' => go (pc + 3) L (v ++ r) μ') | none => False) | _ => False)
  | .invokestatic i => len = 3 ∧ (match G i with | some (n, true, T) => (match spl n stk [] with | some (a, r) => wd r ≤ 8 ∧ T a μ (fun v μ' => go (pc + 3) L (v ++ r) μ') | none => False) | _ => False)
  | .ireturn => len = 1 ∧ (match stk with | [.inl v] => (rk = 1 ∨ (rk = 2 ∧ (v = 0 ∨ v = 1))) ∧ K [.inl v] μ | _ => False)
  | .lreturn => len = 1 ∧ (match stk with | [.inr (.inl v)] => rk = 3 ∧ K [.inr (.inl v)] μ | _ => False)
  | .return_ => len = 1 ∧ (match stk with | [] => rk = 0 ∧ K [] μ | _ => False)
  | _ => False
/-- n steps from pc on; it stops, with V, ahead of a place in 'stops' -/
def wpc (b : ByteArray) (stops : List Nat) (V : Nat → List (Option AV) → List AV → Mem → Prop) : Nat → Nat → List (Option AV) → List AV → Mem → Prop
  | 0, pc, L, stk, μ => V pc L stk μ
  | n + 1, pc, L, stk, μ => if pc ∈ stops then V pc L stk μ else match decode b pc with
    | .ok (i, len) => stp F Cn G rk K (wpc b stops V n) pc L stk μ len i
    | _ => False
/-- the first step is made in any case -/
def wp1 (b : ByteArray) (stops : List Nat) (V : Nat → List (Option AV) → List AV → Mem → Prop) (n pc : Nat) (L : List (Option AV)) (stk : List AV) (μ : Mem) : Prop := match decode b pc with
  | .ok (i, len) => stp F Cn G rk K (wpc F Cn G rk K b stops V n) pc L stk μ len i
  | _ => False
/-- V is closed under steps -/
def Clos (b : ByteArray) (V : Nat → List (Option AV) → List AV → Mem → Prop) : Prop := ∀ (stops : List Nat) (n pc : Nat) (L : List (Option AV)) (stk : List AV) (μ : Mem), wp1 F Cn G rk K b stops V n pc L stk μ → V pc L stk μ
end
