/-! THE LAW's own machine: the script's cells, and what both answer alike -/
section
variable (sc : Nat → Int) (SL : Nat) (G : Nat → Option (Nat × Bool × TT)) (K : List AV → Mem → Prop)
def stpL (go : Nat → List (Option AV) → List AV → Mem → Prop) (pc : Nat) (L : List (Option AV)) (stk : List AV) (μ : Mem) (len : Nat) (i : Instr) : Prop := match i with
  | .iaload => len = 1 ∧ (match stk with | .inl j :: .inr (.inr k) :: r => k = 200 ∧ inb j SL ∧ go (pc + 1) L (.inl (sc j.toNat) :: r) μ | _ => False)
  | .arraylength => len = 1 ∧ (match stk with | .inr (.inr k) :: r => k = 200 ∧ go (pc + 1) L (.inl (SL : Int) :: r) μ | _ => False)
  | .iand => len = 1 ∧ (match stk with | .inl b :: .inl a :: r => b = 63 ∧ go (pc + 1) L (.inl (a % 64) :: r) μ | _ => False)
  | .if_icmp .eq off => len = 3 ∧ 0 ≤ (pc : Int) + off ∧ (match stk with | .inl b :: .inl a :: r => a = b ∧ go (tg pc off) L r μ | _ => False)
  | .lcmp => len = 1 ∧ (match stk with | .inr (.inl b) :: .inr (.inl a) :: r => a = b ∧ go (pc + 1) L (.inl 0 :: r) μ | _ => False)
  | i => stp (fun _ => none) (fun _ => none) G 2 K go pc L stk μ len i
def wpcL (b : ByteArray) (stops : List Nat) (V : Nat → List (Option AV) → List AV → Mem → Prop) : Nat → Nat → List (Option AV) → List AV → Mem → Prop
  | 0, pc, L, stk, μ => V pc L stk μ
  | n + 1, pc, L, stk, μ => if pc ∈ stops then V pc L stk μ else match decode b pc with
    | .ok (i, len) => stpL sc SL G K (wpcL b stops V n) pc L stk μ len i
    | _ => False
def wp1L (b : ByteArray) (stops : List Nat) (V : Nat → List (Option AV) → List AV → Mem → Prop) (n pc : Nat) (L : List (Option AV)) (stk : List AV) (μ : Mem) : Prop := match decode b pc with
  | .ok (i, len) => stpL sc SL G K (wpcL sc SL G K b stops V n) pc L stk μ len i
  | _ => False
def ClosL (b : ByteArray) (V : Nat → List (Option AV) → List AV → Mem → Prop) : Prop := ∀ (stops : List Nat) (n pc : Nat) (L : List (Option AV)) (stk : List AV) (μ : Mem), wp1L sc SL G K b stops V n pc L stk μ → V pc L stk μ
variable (go : Nat → List (Option AV) → List AV → Mem → Prop) (pc : Nat) (L : List (Option AV)) (stk : List AV) (μ : Mem) (len : Nat)
theorem sL_iaload : stpL sc SL G K go pc L stk μ len .iaload = (len = 1 ∧ (match stk with | .inl j :: .inr (.inr k) :: r => k = 200 ∧ inb j SL ∧ go (pc + 1) L (.inl (sc j.toNat) :: r) μ | _ => False)) := rfl
theorem sL_arraylength : stpL sc SL G K go pc L stk μ len .arraylength = (len = 1 ∧ (match stk with | .inr (.inr k) :: r => k = 200 ∧ go (pc + 1) L (.inl (SL : Int) :: r) μ | _ => False)) := rfl
theorem sL_iand : stpL sc SL G K go pc L stk μ len .iand = (len = 1 ∧ (match stk with | .inl b :: .inl a :: r => b = 63 ∧ go (pc + 1) L (.inl (a % 64) :: r) μ | _ => False)) := rfl
theorem sL_icmpeq (off : Int) : stpL sc SL G K go pc L stk μ len (.if_icmp .eq off) = (len = 3 ∧ 0 ≤ (pc : Int) + off ∧ (match stk with | .inl b :: .inl a :: r => a = b ∧ go (tg pc off) L r μ | _ => False)) := rfl
theorem sL_lcmp : stpL sc SL G K go pc L stk μ len .lcmp = (len = 1 ∧ (match stk with | .inr (.inl b) :: .inr (.inl a) :: r => a = b ∧ go (pc + 1) L (.inl 0 :: r) μ | _ => False)) := rfl
theorem sL_iconst (n : Int) : stpL sc SL G K go pc L stk μ len (.iconst n) = stp (fun _ => none) (fun _ => none) G 2 K go pc L stk μ len (.iconst n) := rfl
theorem sL_bipush (n : Int) : stpL sc SL G K go pc L stk μ len (.bipush n) = stp (fun _ => none) (fun _ => none) G 2 K go pc L stk μ len (.bipush n) := rfl
theorem sL_iload_n (n : Fin 4) : stpL sc SL G K go pc L stk μ len (.iload_n n) = stp (fun _ => none) (fun _ => none) G 2 K go pc L stk μ len (.iload_n n) := rfl
theorem sL_aload_n (n : Fin 4) : stpL sc SL G K go pc L stk μ len (.aload_n n) = stp (fun _ => none) (fun _ => none) G 2 K go pc L stk μ len (.aload_n n) := rfl
theorem sL_istore_n (n : Fin 4) : stpL sc SL G K go pc L stk μ len (.istore_n n) = stp (fun _ => none) (fun _ => none) G 2 K go pc L stk μ len (.istore_n n) := rfl
theorem sL_iinc (n : Nat) (v : Int) : stpL sc SL G K go pc L stk μ len (.iinc n v) = stp (fun _ => none) (fun _ => none) G 2 K go pc L stk μ len (.iinc n v) := rfl
theorem sL_iadd : stpL sc SL G K go pc L stk μ len .iadd = stp (fun _ => none) (fun _ => none) G 2 K go pc L stk μ len .iadd := rfl
theorem sL_isub : stpL sc SL G K go pc L stk μ len .isub = stp (fun _ => none) (fun _ => none) G 2 K go pc L stk μ len .isub := rfl
theorem sL_goto (off : Int) : stpL sc SL G K go pc L stk μ len (.goto off) = stp (fun _ => none) (fun _ => none) G 2 K go pc L stk μ len (.goto off) := rfl
theorem sL_icmpgt (off : Int) : stpL sc SL G K go pc L stk μ len (.if_icmp .gt off) = stp (fun _ => none) (fun _ => none) G 2 K go pc L stk μ len (.if_icmp .gt off) := rfl
theorem sL_ifeq (off : Int) : stpL sc SL G K go pc L stk μ len (.ifCond .eq off) = stp (fun _ => none) (fun _ => none) G 2 K go pc L stk μ len (.ifCond .eq off) := rfl
theorem sL_tsw (d lo hi : Int) (os : Array Int) : stpL sc SL G K go pc L stk μ len (.tableswitch d lo hi os) = stp (fun _ => none) (fun _ => none) G 2 K go pc L stk μ len (.tableswitch d lo hi os) := rfl
theorem sL_inv (i : Nat) : stpL sc SL G K go pc L stk μ len (.invokevirtual i) = stp (fun _ => none) (fun _ => none) G 2 K go pc L stk μ len (.invokevirtual i) := rfl
theorem sL_ireturn : stpL sc SL G K go pc L stk μ len .ireturn = stp (fun _ => none) (fun _ => none) G 2 K go pc L stk μ len .ireturn := rfl
end
section
variable (sc : Nat → Int) (SL : Nat) (G : Nat → Option (Nat × Bool × TT)) (K : List AV → Mem → Prop) (b : ByteArray) (stops : List Nat) (V : Nat → List (Option AV) → List AV → Mem → Prop) (n pc : Nat) (L : List (Option AV)) (stk : List AV) (μ : Mem)
theorem wpcL_z : wpcL sc SL G K b stops V 0 pc L stk μ = V pc L stk μ := rfl
theorem wpcL_s : wpcL sc SL G K b stops V (n + 1) pc L stk μ = (if pc ∈ stops then V pc L stk μ else match decode b pc with
    | .ok (i, len) => stpL sc SL G K (wpcL sc SL G K b stops V n) pc L stk μ len i
    | _ => False) := rfl
end
section
variable {p : Program} {l : Launch} {e : Env} {R : Room} {s : State} {m : MethodId} {args : Array Value} {below : List Frame} {meth : Method} {c : Code} {cells slots : Nat} {Q : State → Prop}
variable {cc : ByteArray} {A : Nat → Prop} {g : Gh} {nL d : Nat} {own : String}
variable {sc : Nat → Int} {SL : Nat} {G : Nat → Option (Nat × Bool × TT)} {K : List AV → Mem → Prop}
theorem stpL_sound {go : Nat → List (Option AV) → List AV → Mem → Prop} {pc : Nat} {L : List (Option AV)} {stk : List AV} {μ : Mem} {len : Nat} (C : CF p R s m args c cc nL own g A cells slots d) {xs : Nat → Int32} (hX : va_X (g.2.2 200) SL xs s s.heap) (hbl : g.2.2 200 < s.heap.size) (hbA : ¬ A (g.2.2 200)) (hsc : ∀ j, Int32.ofInt (sc j) = xs j) (hSL : SL ≤ 3072) (hG : ∀ i n b T, G i = some (n, b, T) → CallOK l d own i n b T)
    (hret : ∀ (go : Nat → List (Option AV) → List AV → Mem → Prop) pc L stk μ len i, (i = .ireturn ∨ i = .lreturn ∨ i = .return_) → decode cc pc = .ok (i, len) → stp (fun _ => none) (fun _ => none) G 2 K go pc L stk μ len i → VV p l e R s m args below meth c nL g A cells slots Q pc L stk μ)
    (hgo : ∀ pc L stk μ, go pc L stk μ → VV p l e R s m args below meth c nL g A cells slots Q pc L stk μ) {i : Instr} (hd : decode cc pc = .ok (i, len)) (h : stpL sc SL G K go pc L stk μ len i) : VV p l e R s m args below meth c nL g A cells slots Q pc L stk μ := by
  have gen : stp (fun _ => none) (fun _ => none) G 2 K go pc L stk μ len i → VV p l e R s m args below meth c nL g A cells slots Q pc L stk μ := fun h => stp_sound C (fun i q h => by cases h) (fun i v h => by cases h) hG hret hgo hd h
  have C' := C
  obtain ⟨⟨hx, hb, hml, hown, hts⟩, hK, hi, hST, hA, hc1, hc2, hd1, hd2⟩ := C'
  unfold stpL at h
  split at h
  · obtain ⟨rfl, h⟩ := h
    split at h
    · rename_i j k r
      obtain ⟨rfl, h1, h2⟩ := h
      intro hl H locs ls hP hS hv
      have hr : InR j := n_inb (by omega) h1
      refine va_sld hx hb hX hbl hbA hS (n_in (by omega) h1) hd ?_
      rw [n_cl hr, ← hsc]
      exact hgo _ _ _ _ h2 hl H locs ls hP hS hv
    · exact h.elim
  · obtain ⟨rfl, h⟩ := h
    split at h
    · rename_i k r
      obtain ⟨rfl, h2⟩ := h
      intro hl H locs ls hP hS hv
      refine va_slen hx hb hX hbl hbA hS hd ?_
      rw [← Int32.ofInt_eq_ofNat]
      exact hgo _ _ _ _ h2 hl H locs ls hP hS hv
    · exact h.elim
  · obtain ⟨rfl, h⟩ := h
    split at h
    · rename_i b a r
      obtain ⟨rfl, h2⟩ := h
      intro hl H locs ls hP hS hv
      refine lv_iand hx hb hd ?_
      have e : Int32.ofInt a &&& Int32.ofInt 63 = Int32.ofInt (a % 64) := n_and 6 (by decide) (by decide +kernel)
      rw [e]
      exact hgo _ _ _ _ h2 hl H locs ls hP hS hv
    · exact h.elim
  · obtain ⟨rfl, h0, h⟩ := h
    split at h
    · rename_i b a r
      obtain ⟨rfl, h2⟩ := h
      intro hl H locs ls hP hS hv
      exact lv_icmp_eq hx hb hd (tg_ok h0) (fun _ => hgo _ _ _ _ h2 hl H locs ls hP hS hv) (fun z => absurd rfl z)
    · exact h.elim
  · obtain ⟨rfl, h⟩ := h
    split at h
    · rename_i b a r
      obtain ⟨rfl, h2⟩ := h
      intro hl H locs ls hP hS hv
      refine W.lcmp hx hb hd ?_
      have ec : lg_cmp (Int64.ofInt a) (Int64.ofInt a) = 0 := by
        unfold lg_cmp
        rw [if_neg (by rw [gt_iff_lt, Int64.lt_iff_toInt_lt]; omega), if_pos rfl]
      rw [ec]
      exact hgo _ _ _ _ h2 hl H locs ls hP hS hv
    · exact h.elim
  · exact gen h
theorem closL_sound (C : CF p R s m args c cc nL own g A cells slots d) {xs : Nat → Int32} (hX : va_X (g.2.2 200) SL xs s s.heap) (hbl : g.2.2 200 < s.heap.size) (hbA : ¬ A (g.2.2 200)) (hsc : ∀ j, Int32.ofInt (sc j) = xs j) (hSL : SL ≤ 3072) (hG : ∀ i n b T, G i = some (n, b, T) → CallOK l d own i n b T)
    (hret : ∀ (go : Nat → List (Option AV) → List AV → Mem → Prop) pc L stk μ len i, (i = .ireturn ∨ i = .lreturn ∨ i = .return_) → decode cc pc = .ok (i, len) → stp (fun _ => none) (fun _ => none) G 2 K go pc L stk μ len i → VV p l e R s m args below meth c nL g A cells slots Q pc L stk μ) : ClosL sc SL G K cc (VV p l e R s m args below meth c nL g A cells slots Q) := by
  intro stops
  have key : ∀ n pc L stk μ, wpcL sc SL G K cc stops (VV p l e R s m args below meth c nL g A cells slots Q) n pc L stk μ → VV p l e R s m args below meth c nL g A cells slots Q pc L stk μ := by
    intro n
    induction n with
    | zero => intro pc L stk μ h; exact h
    | succ n ih =>
      intro pc L stk μ h
      rw [wpcL_s] at h
      by_cases hs : pc ∈ stops
      · rw [if_pos hs] at h; exact h
      · rw [if_neg hs] at h
        cases hd : decode cc pc with
        | error z => rw [hd] at h; exact h.elim
        | ok q =>
          obtain ⟨i, len⟩ := q
          rw [hd] at h
          exact stpL_sound C hX hbl hbA hsc hSL hG hret ih hd h
  intro n pc L stk μ h
  unfold wp1L at h
  cases hd : decode cc pc with
  | error z => rw [hd] at h; exact h.elim
  | ok q =>
    obtain ⟨i, len⟩ := q
    rw [hd] at h
    exact stpL_sound C hX hbl hbA hsc hSL hG hret (key n) hd h
end
