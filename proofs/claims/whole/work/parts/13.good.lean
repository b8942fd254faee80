section
variable {p : Program} {l : Launch} {e : Env} {R : Room} {s : State} {m : MethodId} {args : Array Value} {below : List Frame} {meth : Method} {c : Code} {cells slots : Nat} {Q : State → Prop}
variable {cc : ByteArray} {A : Nat → Prop} {g : Gh} {nL d : Nat} {own : String}
variable {F : Nat → Option (Nat × Nat × Nat × Nat)} {Cn : Nat → Option AV} {G : Nat → Option (Nat × Bool × TT)} {rk : Nat} {K : List AV → Mem → Prop}
theorem stp_sound {go : Nat → List (Option AV) → List AV → Mem → Prop} {pc : Nat} {L : List (Option AV)} {stk : List AV} {μ : Mem} {len : Nat} (C : CF p R s m args c cc nL own g A cells slots d) (hF : ∀ i q, F i = some q → FOK own i q) (hC : ∀ i v, Cn i = some v → COK own i v) (hG : ∀ i n b T, G i = some (n, b, T) → CallOK l d own i n b T)
    (hret : ∀ (go : Nat → List (Option AV) → List AV → Mem → Prop) pc L stk μ len i, (i = .ireturn ∨ i = .lreturn ∨ i = .return_) → decode cc pc = .ok (i, len) → stp F Cn G rk K go pc L stk μ len i → VV p l e R s m args below meth c nL g A cells slots Q pc L stk μ)
    (hgo : ∀ pc L stk μ, go pc L stk μ → VV p l e R s m args below meth c nL g A cells slots Q pc L stk μ) {i : Instr} (hd : decode cc pc = .ok (i, len)) (h : stp F Cn G rk K go pc L stk μ len i) : VV p l e R s m args below meth c nL g A cells slots Q pc L stk μ := by
  cases i with
  | iconst n => exact s_op C hgo hd h (by simp)
  | bipush n => exact s_op C hgo hd h (by simp)
  | sipush n => exact s_op C hgo hd h (by simp)
  | lconst n => exact s_op C hgo hd h (by simp)
  | goto off => exact s_op C hgo hd h (by simp)
  | iadd => exact s_op C hgo hd h (by simp)
  | isub => exact s_op C hgo hd h (by simp)
  | imul => exact s_op C hgo hd h (by simp)
  | ineg => exact s_op C hgo hd h (by simp)
  | idiv => exact s_op C hgo hd h (by simp)
  | irem => exact s_op C hgo hd h (by simp)
  | ladd => exact s_op C hgo hd h (by simp)
  | lmul => exact s_op C hgo hd h (by simp)
  | ldiv => exact s_op C hgo hd h (by simp)
  | lrem => exact s_op C hgo hd h (by simp)
  | ishl => exact s_op C hgo hd h (by simp)
  | ishr => exact s_op C hgo hd h (by simp)
  | iushr => exact s_op C hgo hd h (by simp)
  | iand => exact s_op C hgo hd h (by simp)
  | ior => exact s_op C hgo hd h (by simp)
  | i2l => exact s_op C hgo hd h (by simp)
  | i2b => exact s_op C hgo hd h (by simp)
  | i2s => exact s_op C hgo hd h (by simp)
  | lcmp => exact s_op C hgo hd h (by simp)
  | dup => exact s_op C hgo hd h (by simp)
  | dup2 => exact s_op C hgo hd h (by simp)
  | pop => exact s_op C hgo hd h (by simp)
  | iload_n n => exact s_loc C hgo hd h (by simp)
  | lload_n n => exact s_loc C hgo hd h (by simp)
  | aload_n n => exact s_loc C hgo hd h (by simp)
  | istore_n n => exact s_loc C hgo hd h (by simp)
  | lstore_n n => exact s_loc C hgo hd h (by simp)
  | astore_n n => exact s_loc C hgo hd h (by simp)
  | iload n => exact s_loc C hgo hd h (by simp)
  | lload n => exact s_loc C hgo hd h (by simp)
  | aload n => exact s_loc C hgo hd h (by simp)
  | istore n => exact s_loc C hgo hd h (by simp)
  | lstore n => exact s_loc C hgo hd h (by simp)
  | astore n => exact s_loc C hgo hd h (by simp)
  | iinc n k => exact s_loc C hgo hd h (by simp)
  | ifCond cn off => exact s_if C hgo hd h
  | if_icmp cn off => exact s_icmp C hgo hd h
  | tableswitch a b c os => exact s_sw C hgo hd h
  | lookupswitch a ps => exact s_lsw C hgo hd h
  | ldc i => exact s_cst C hC hgo (Or.inl rfl) hd h
  | ldc2_w i => exact s_cst C hC hgo (Or.inr (Or.inl rfl)) hd h
  | getstatic i => exact s_cst C hC hgo (Or.inr (Or.inr (Or.inl rfl))) hd h
  | ldc_w i => exact s_cst C hC hgo (Or.inr (Or.inr (Or.inr rfl))) hd h
  | getfield i => exact s_get C hF hgo hd h
  | putfield i => exact s_put C hF hgo hd h
  | iaload => exact s_arr C hgo (by simp) hd h
  | baload => exact s_arr C hgo (by simp) hd h
  | iastore => exact s_arr C hgo (by simp) hd h
  | bastore => exact s_arr C hgo (by simp) hd h
  | aaload => exact s_arr C hgo (by simp) hd h
  | aastore => exact s_arr C hgo (by simp) hd h
  | ireturn => exact hret go pc L stk μ len _ (by simp) hd h
  | lreturn => exact hret go pc L stk μ len _ (by simp) hd h
  | return_ => exact hret go pc L stk μ len _ (by simp) hd h
  | invokevirtual i =>
    obtain ⟨rfl, h⟩ := h
    split at h
    · rename_i n T hq
      split at h
      · rename_i a r hs
        obtain ⟨h1, h2⟩ := spl_ok _ _ _ _ _ hs
        have e1 : stk = a.reverse ++ r := h1
        rw [e1]
        exact hG _ _ _ _ hq C pc L a r μ _ (by simpa using h2) h.1 hd h.2 (fun r' μ' z => hgo _ _ _ _ z)
      · exact h.elim
    · exact h.elim
  | invokestatic i =>
    obtain ⟨rfl, h⟩ := h
    split at h
    · rename_i n T hq
      split at h
      · rename_i a r hs
        obtain ⟨h1, h2⟩ := spl_ok _ _ _ _ _ hs
        have e1 : stk = a.reverse ++ r := h1
        rw [e1]
        exact hG _ _ _ _ hq C pc L a r μ _ (by simpa using h2) h.1 hd h.2 (fun r' μ' z => hgo _ _ _ _ z)
      · exact h.elim
    · exact h.elim
  | _ => exact False.elim h
theorem clos_sound (C : CF p R s m args c cc nL own g A cells slots d) (hF : ∀ i q, F i = some q → FOK own i q) (hC : ∀ i v, Cn i = some v → COK own i v) (hG : ∀ i n b T, G i = some (n, b, T) → CallOK l d own i n b T)
    (hret : ∀ (go : Nat → List (Option AV) → List AV → Mem → Prop) pc L stk μ len i, (i = .ireturn ∨ i = .lreturn ∨ i = .return_) → decode cc pc = .ok (i, len) → stp F Cn G rk K go pc L stk μ len i → VV p l e R s m args below meth c nL g A cells slots Q pc L stk μ) : Clos F Cn G rk K cc (VV p l e R s m args below meth c nL g A cells slots Q) := by
  intro stops
  have key : ∀ n pc L stk μ, wpc F Cn G rk K cc stops (VV p l e R s m args below meth c nL g A cells slots Q) n pc L stk μ → VV p l e R s m args below meth c nL g A cells slots Q pc L stk μ := by
    intro n
    induction n with
    | zero => intro pc L stk μ h; exact h
    | succ n ih =>
      intro pc L stk μ h
      rw [wpc_s] at h
      by_cases hs : pc ∈ stops
      · rw [if_pos hs] at h; exact h
      · rw [if_neg hs] at h
        cases hd : decode cc pc with
        | error z => rw [hd] at h; exact h.elim
        | ok q =>
          obtain ⟨i, len⟩ := q
          rw [hd] at h
          exact stp_sound C hF hC hG hret ih hd h
  intro n pc L stk μ h
  unfold wp1 at h
  cases hd : decode cc pc with
  | error z => rw [hd] at h; exact h.elim
  | ok q =>
    obtain ⟨i, len⟩ := q
    rw [hd] at h
    exact stp_sound C hF hC hG hret (key n) hd h
end
/-! CONTRACTS -/
def rmd (d : Nat) : Room := { frames := d, cells := 0, slots := 0, locals := 36 * d }
def PreM (g : Gh) (μ : Mem) (avs : List AV) : Array Value → State → Prop := va_Pc (avs.map (cv g.2.2)) (fun U => va_P g.1 vwCl (wl g μ) U.heap ∧ va_K g.1 vwCl (tysG g) U ∧ Inj g ∧ ST g (inW g) U U.heap)
def QM (g : Gh) (K : List AV → Mem → Prop) : Array Value → State → Outcome → State → Prop := fun _ st oc t => (∃ (r : List AV) (μ' : Mem), oc = .returned ((r.map (cv g.2.2)).head?) ∧ r.length ≤ 1 ∧ K r μ' ∧ va_P g.1 vwCl (wl g μ') t.heap) ∧ va_F (inW g) st t
def Good (l : Launch) (d : Nat) (y : MethodName) (cc : ByteArray) (nL : Nat) (ret : Option FieldType) (T : TT) : Prop := ∀ (g : Gh) (μ : Mem) (avs : List AV) (K : List AV → Mem → Prop), T avs μ K → Met l y (Jvm.Cond.code y cc nL ret :: gtb) (rmd d) (PreM g μ avs) (QM g K) 0 0 (inW g)
def entl : List AV → List (Option AV)
  | [] => []
  | .inr (.inl x) :: r => some (.inr (.inl x)) :: none :: entl r
  | .inl x :: r => some (.inl x) :: entl r
  | .inr (.inr x) :: r => some (.inr (.inr x)) :: entl r
def ent (avs : List AV) (n : Nat) : List (Option AV) := entl avs ++ List.replicate (n - (entl avs).length) none
def retOK (rk : Nat) (ret : Option FieldType) : Prop := (rk = 0 ∧ ret = none) ∨ (rk = 1 ∧ ret = some .int) ∨ (rk = 2 ∧ ret = some .boolean) ∨ (rk = 3 ∧ ret = some .long)
theorem lg_app_none (a : List (Option AV)) (n i : Nat) {v : AV} (h : lg (a ++ List.replicate n none) i = some v) : lg a i = some v := by
  induction a generalizing i with
  | nil =>
    exfalso
    induction n generalizing i with
    | zero => simp [lg] at h
    | succ n ih => cases i with
      | zero => simp [lg, List.replicate_succ] at h
      | succ k => simp only [List.nil_append, List.replicate_succ, lg] at h; exact ih k (by simpa using h)
  | cons x r ih => cases i with
    | zero => simpa [lg] using h
    | succ k => simp only [List.cons_append, lg] at h ⊢; exact ih k h
theorem lg_entl (ad : Nat → Nat) : ∀ (avs : List AV) (b i : Nat) {v : AV}, lg (entl avs) i = some v → (b + i, cv ad v) ∈ lv_args b (avs.map (cv ad))
  | [], b, i, v, h => by simp [entl, lg] at h
  | .inl x :: r, b, i, v, h => by
    cases i with
    | zero => simp only [entl, lg, Option.some.injEq] at h; subst h; simp [lv_args]
    | succ k =>
      simp only [entl, lg] at h
      have := lg_entl ad r (b + 1) k h
      simp only [List.map_cons, lv_args, cv, Value.category]
      refine List.mem_cons_of_mem _ ?_
      rw [show b + (k + 1) = b + 1 + k by omega]
      exact this
  | .inr (.inr x) :: r, b, i, v, h => by
    cases i with
    | zero => simp only [entl, lg, Option.some.injEq] at h; subst h; simp [lv_args]
    | succ k =>
      simp only [entl, lg] at h
      have := lg_entl ad r (b + 1) k h
      simp only [List.map_cons, lv_args, cv, Value.category]
      refine List.mem_cons_of_mem _ ?_
      rw [show b + (k + 1) = b + 1 + k by omega]
      exact this
  | .inr (.inl x) :: r, b, i, v, h => by
    cases i with
    | zero => simp only [entl, lg, Option.some.injEq] at h; subst h; simp [lv_args]
    | succ k => cases k with
      | zero => simp [entl, lg] at h
      | succ k =>
        simp only [entl, lg] at h
        have := lg_entl ad r (b + 2) k h
        simp only [List.map_cons, lv_args, cv, Value.category]
        refine List.mem_cons_of_mem _ ?_
        rw [show b + (k + 1 + 1) = b + 2 + k by omega]
        exact this
theorem entl_len (ad : Nat → Nat) : ∀ (avs : List AV), (lg_sl (avs.map (cv ad))).length = (entl avs).length
  | [] => rfl
  | .inl x :: r => by have := entl_len ad r; simp [lg_sl, cv, Value.category, entl] at this ⊢; omega
  | .inr (.inr x) :: r => by have := entl_len ad r; simp [lg_sl, cv, Value.category, entl] at this ⊢; omega
  | .inr (.inl x) :: r => by have := entl_len ad r; simp [lg_sl, cv, Value.category, entl] at this ⊢; omega
