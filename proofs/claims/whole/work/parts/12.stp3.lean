section
variable {p : Program} {l : Launch} {e : Env} {R : Room} {s : State} {m : MethodId} {args : Array Value} {below : List Frame} {meth : Method} {c : Code} {cells slots : Nat} {Q : State → Prop}
variable {cc : ByteArray} {A : Nat → Prop} {g : Gh} {nL d : Nat} {own : String}
variable {F : Nat → Option (Nat × Nat × Nat × Nat)} {Cn : Nat → Option AV} {G : Nat → Option (Nat × Bool × TT)} {rk : Nat} {K : List AV → Mem → Prop} {go : Nat → List (Option AV) → List AV → Mem → Prop}
variable {pc : Nat} {L : List (Option AV)} {stk : List AV} {μ : Mem} {len : Nat}
theorem s_loc (C : CF p R s m args c cc nL own g A cells slots d) (hgo : ∀ pc L stk μ, go pc L stk μ → VV p l e R s m args below meth c nL g A cells slots Q pc L stk μ) {i : Instr} (hd : decode cc pc = .ok (i, len)) (h : stp F Cn G rk K go pc L stk μ len i) (hi' : (∃ n, i = .iload_n n ∨ i = .lload_n n ∨ i = .aload_n n ∨ i = .istore_n n ∨ i = .lstore_n n ∨ i = .astore_n n) ∨ (∃ n, i = .iload n ∨ i = .lload n ∨ i = .aload n ∨ i = .istore n ∨ i = .lstore n ∨ i = .astore n) ∨ ∃ n k, i = .iinc n k) : VV p l e R s m args below meth c nL g A cells slots Q pc L stk μ := by
  intro hl H locs ls hP hS hv
  obtain ⟨⟨hx, hb, hml, hown, hts⟩, hK, hi, hST, hA, hc1, hc2, hd1, hd2⟩ := C
  have st1 : ∀ {i : Nat} {v : AV} {L' : List (Option AV)} {pc' : Nat} {r : List AV}, okl L i → L' = lset L i (some v) → go pc' L' r μ → ∀ ls', lv_has ls' nL ((i, cv g.2.2 v) :: (lvs g.2.2 L).filter (fun q => !(q.1 == i) && !(q.1 + 1 == i && q.2.category == 2))) → W p l e R s m args below meth c H locs cells slots Q (F0 m pc' ls' (r.map (cv g.2.2))) := by
    intro i v L' pc' r h2 e h ls' h'
    subst e
    exact hgo _ _ _ _ h (by rw [lset_len]; exact hl) H locs ls' hP hS (lv_mono h' (lvs_store h2))
  have st2 : ∀ {i : Nat} {v : AV} {pc' : Nat} {r : List AV}, okl L i → go pc' (lset (lset L i (some v)) (i + 1) none) r μ → ∀ ls', lv_has ls' nL ((i, cv g.2.2 v) :: (lvs g.2.2 L).filter (fun q => !(q.1 == i) && (!(q.1 == i + 1) && !(q.1 + 1 == i && q.2.category == 2)))) → W p l e R s m args below meth c H locs cells slots Q (F0 m pc' ls' (r.map (cv g.2.2))) := by
    intro i v pc' r h2 h ls' h'
    exact hgo _ _ _ _ h (by rw [lset_len, lset_len]; exact hl) H locs ls' hP hS (lv_mono h' (lvs_store2 h2))
  rcases hi' with ⟨n, rfl | rfl | rfl | rfl | rfl | rfl⟩ | ⟨n, rfl | rfl | rfl | rfl | rfl | rfl⟩ | ⟨n, k, rfl⟩
  · obtain ⟨rfl, h⟩ := h
    split at h
    · rename_i x hq
      exact lv_iload_n hx hb hd rfl (lvl hv hq) (hgo _ _ _ _ h hl H locs ls hP hS hv)
    · exact h.elim
  · obtain ⟨rfl, h⟩ := h
    split at h
    · rename_i x hq
      exact lv_lload_n hx hb hd rfl (lvl hv hq) (hgo _ _ _ _ h hl H locs ls hP hS hv)
    · exact h.elim
  · obtain ⟨rfl, h⟩ := h
    split at h
    · rename_i x hq
      exact lv_aload_n hx hb hd rfl (lvl hv hq) (hgo _ _ _ _ h hl H locs ls hP hS hv)
    · exact h.elim
  · obtain ⟨rfl, h1, h2, h⟩ := h
    split at h
    · exact lv_istore_n hx hb hd rfl hv (by rw [← hl]; exact h1) rfl (st1 h2 rfl h)
    · exact h.elim
  · obtain ⟨rfl, h1, h2, h⟩ := h
    split at h
    · exact lv_lstore_n hx hb hd rfl hv (by rw [← hl]; exact h1) rfl (st2 h2 h)
    · exact h.elim
  · obtain ⟨rfl, h1, h2, h⟩ := h
    split at h
    · exact lv_astore_n hx hb hd rfl hv (by rw [← hl]; exact h1) rfl (st1 h2 rfl h)
    · exact h.elim
  · obtain ⟨rfl, h⟩ := h
    split at h
    · rename_i x hq
      exact lv_iload hx hb hd (lvl hv hq) (hgo _ _ _ _ h hl H locs ls hP hS hv)
    · exact h.elim
  · obtain ⟨rfl, h⟩ := h
    split at h
    · rename_i x hq
      exact lv_lload hx hb hd (lvl hv hq) (hgo _ _ _ _ h hl H locs ls hP hS hv)
    · exact h.elim
  · obtain ⟨rfl, h⟩ := h
    split at h
    · rename_i x hq
      exact lv_aload hx hb hd (lvl hv hq) (hgo _ _ _ _ h hl H locs ls hP hS hv)
    · exact h.elim
  · obtain ⟨rfl, h1, h2, h⟩ := h
    split at h
    · exact lv_istore hx hb hd hv (by rw [← hl]; exact h1) rfl (st1 h2 rfl h)
    · exact h.elim
  · obtain ⟨rfl, h1, h2, h⟩ := h
    split at h
    · exact lv_lstore hx hb hd hv (by rw [← hl]; exact h1) rfl (st2 h2 h)
    · exact h.elim
  · obtain ⟨rfl, h1, h2, h⟩ := h
    split at h
    · exact lv_astore hx hb hd hv (by rw [← hl]; exact h1) rfl (st1 h2 rfl h)
    · exact h.elim
  · obtain ⟨rfl, h1, h2, h⟩ := h
    split at h
    · rename_i x hq
      obtain ⟨k', hk'⟩ := List.getElem?_of_mem (lvs_mem.mpr ⟨_, hq, rfl⟩ : (n, cv g.2.2 (.inl x)) ∈ lvs g.2.2 L)
      exact lv_iinc hx hb hd hv hk' (by rw [← Int32.ofInt_add]) (by rw [← hl]; exact h1) rfl (st1 h2 rfl h)
    · exact h.elim
/-- all steps but returns and calls -/
theorem s_op (C : CF p R s m args c cc nL own g A cells slots d) (hgo : ∀ pc L stk μ, go pc L stk μ → VV p l e R s m args below meth c nL g A cells slots Q pc L stk μ) {i : Instr} (hd : decode cc pc = .ok (i, len)) (h : stp F Cn G rk K go pc L stk μ len i) (hi' : (∃ n, i = .iconst n ∨ i = .bipush n ∨ i = .sipush n) ∨ (∃ n, i = .lconst n) ∨ (∃ off, i = .goto off) ∨ i = .iadd ∨ i = .isub ∨ i = .imul ∨ i = .ineg ∨ i = .idiv ∨ i = .irem ∨ i = .ladd ∨ i = .lmul ∨ i = .ldiv ∨ i = .lrem ∨ i = .ishl ∨ i = .ishr ∨ i = .iushr ∨ i = .iand ∨ i = .ior ∨ i = .i2l ∨ i = .i2b ∨ i = .i2s ∨ i = .lcmp ∨ i = .dup ∨ i = .dup2 ∨ i = .pop) : VV p l e R s m args below meth c nL g A cells slots Q pc L stk μ := by
  intro hl H locs ls hP hS hv
  obtain ⟨⟨hx, hb, hml, hown, hts⟩, hK, hi, hST, hA, hc1, hc2, hd1, hd2⟩ := C
  have fin : ∀ {pc' : Nat} {st' : List AV}, go pc' L st' μ → W p l e R s m args below meth c H locs cells slots Q (F0 m pc' ls (st'.map (cv g.2.2))) := fun h => hgo _ _ _ _ h hl H locs ls hP hS hv
  rcases hi' with ⟨n, rfl | rfl | rfl⟩ | ⟨n, rfl⟩ | ⟨off, rfl⟩ | rfl | rfl | rfl | rfl | rfl | rfl | rfl | rfl | rfl | rfl | rfl | rfl | rfl | rfl | rfl | rfl | rfl | rfl | rfl | rfl | rfl | rfl
  · obtain ⟨rfl, h⟩ := h
    exact lv_iconst hx hb hd rfl (fin h)
  · obtain ⟨rfl, h1, h2, h⟩ := h
    exact lv_bipush hx hb hd (n_bi h1 h2) (fin h)
  · obtain ⟨rfl, h1, h2, h⟩ := h
    exact lv_sipush hx hb hd (n_si h1 h2) (fin h)
  · obtain ⟨rfl, h⟩ := h
    exact lv_lconst hx hb hd (by rw [← Int64.ofInt_eq_ofNat]) (fin h)
  · obtain ⟨rfl, ho, h⟩ := h
    exact lv_goto hx hb hd (tg_ok ho) (fin h)
  · obtain ⟨rfl, h⟩ := h
    split at h
    · refine lv_iadd hx hb hd ?_
      rw [← Int32.ofInt_add]
      exact fin h
    · exact h.elim
  · obtain ⟨rfl, h⟩ := h
    split at h
    · refine lv_isub hx hb hd ?_
      rw [← Int32.ofInt_sub]
      exact fin h
    · exact h.elim
  · obtain ⟨rfl, h⟩ := h
    split at h
    · refine lv_imul hx hb hd ?_
      rw [← Int32.ofInt_mul]
      exact fin h
    · exact h.elim
  · obtain ⟨rfl, h⟩ := h
    split at h
    · refine lv_ineg hx hb hd ?_
      rw [← Int32.ofInt_neg]
      exact fin h
    · exact h.elim
  · obtain ⟨rfl, h⟩ := h
    split at h
    · obtain ⟨⟨h1, h2, h3, h4⟩, h⟩ := h
      refine lv_idiv hx hb hd (by rw [n_0, n_eq ⟨by omega, by omega⟩ InR0]; omega) ?_
      rw [n_div h1 h2 h3 h4]
      exact fin h
    · exact h.elim
  · obtain ⟨rfl, h⟩ := h
    split at h
    · obtain ⟨⟨h1, h2, h3, h4⟩, h⟩ := h
      refine lv_irem hx hb hd (by rw [n_0, n_eq ⟨by omega, by omega⟩ InR0]; omega) ?_
      rw [n_rem h1 h2 h3 h4]
      exact fin h
    · exact h.elim
  · obtain ⟨rfl, h⟩ := h
    split at h
    · refine lv_ladd hx hb hd ?_
      rw [← Int64.ofInt_add]
      exact fin h
    · exact h.elim
  · obtain ⟨rfl, h⟩ := h
    split at h
    · refine lv_lmul hx hb hd ?_
      rw [← Int64.ofInt_mul]
      exact fin h
    · exact h.elim
  · obtain ⟨rfl, h⟩ := h
    split at h
    · obtain ⟨⟨h1, h2, h3, h4⟩, h⟩ := h
      refine lv_ldiv hx hb hd (fun z => ?_) ?_
      · have := congrArg Int64.toInt z
        rw [n_toL ⟨by omega, by omega⟩] at this
        have e0 : (0 : Int64).toInt = 0 := by decide
        omega
      rw [n_ldiv h1 h2 h3 h4]
      exact fin h
    · exact h.elim
  · obtain ⟨rfl, h⟩ := h
    split at h
    · obtain ⟨⟨h1, h2, h3, h4⟩, h⟩ := h
      refine lv_lrem hx hb hd (fun z => ?_) ?_
      · have := congrArg Int64.toInt z
        rw [n_toL ⟨by omega, by omega⟩] at this
        have e0 : (0 : Int64).toInt = 0 := by decide
        omega
      rw [n_lrem h1 h2 h3 h4]
      exact fin h
    · exact h.elim
  · obtain ⟨rfl, h⟩ := h
    split at h
    · obtain ⟨⟨h1, h2, h3, h4⟩, h⟩ := h
      refine lv_ishl hx hb hd ?_
      rw [n_shl h1 h2 h3 h4]
      exact fin h
    · exact h.elim
  · obtain ⟨rfl, h⟩ := h
    split at h
    · obtain ⟨⟨h1, h2⟩, h⟩ := h
      refine lv_ishr hx hb hd ?_
      rw [n_shr h1 h2]
      exact fin h
    · exact h.elim
  · obtain ⟨rfl, h⟩ := h
    split at h
    · obtain ⟨⟨h1, h2⟩, h⟩ := h
      exact lv_iushr hx hb hd (n_ushr h1 h2) (fin h)
    · exact h.elim
  · obtain ⟨rfl, h⟩ := h
    split at h
    · rename_i b a r
      refine lv_iand hx hb hd ?_
      by_cases e1 : b = 1
      · rw [if_pos e1] at h
        subst e1
        rw [n_and 1 (by omega) (by decide)]
        exact fin h
      · rw [if_neg e1] at h
        by_cases e2 : b = 32767
        · rw [if_pos e2] at h
          subst e2
          rw [n_and 15 (by omega) (by decide)]
          exact fin h
        · rw [if_neg e2] at h
          obtain ⟨⟨h1, h2, h3, h4⟩, h⟩ := h
          rw [n_land h1 h2 h3 h4]
          exact fin h
    · exact h.elim
  · obtain ⟨rfl, h⟩ := h
    split at h
    · obtain ⟨⟨h1, h2, h3, h4⟩, h⟩ := h
      refine lv_ior hx hb hd ?_
      rw [n_or h1 h2 h3 h4]
      exact fin h
    · exact h.elim
  · obtain ⟨rfl, h⟩ := h
    split at h
    · obtain ⟨h1, h⟩ := h
      exact lv_i2l hx hb hd (n_i2l h1) (fin h)
    · exact h.elim
  · obtain ⟨rfl, h⟩ := h
    split at h
    · exact lv_i2b hx hb hd (n_i2b _) (fin h)
    · exact h.elim
  · obtain ⟨rfl, h⟩ := h
    split at h
    · exact lv_i2s hx hb hd (n_i2s _) (fin h)
    · exact h.elim
  · obtain ⟨rfl, h⟩ := h
    split at h
    · rename_i b a r
      obtain ⟨h1, h2, h3, h4, h5⟩ := h
      refine W.lcmp hx hb hd ?_
      have q1 := n_toL h1
      have q2 := n_toL h2
      have lt1 : Int64.ofInt b < Int64.ofInt a ↔ b < a := by rw [Int64.lt_iff_toInt_lt, q1, q2]
      have eq1 : Int64.ofInt a = Int64.ofInt b ↔ a = b := by rw [← Int64.toInt_inj, q1, q2]
      unfold lg_cmp
      by_cases e1 : b < a
      · rw [if_pos (lt1.mpr e1)]
        exact fin (h5 e1)
      · rw [if_neg (fun z => e1 (lt1.mp z))]
        by_cases e2 : a = b
        · rw [if_pos (eq1.mpr e2)]
          exact fin (h4 e2)
        · rw [if_neg (fun z => e2 (eq1.mp z))]
          exact fin (h3 (by omega))
    · exact h.elim
  · obtain ⟨rfl, h⟩ := h
    split at h
    · exact lv_dup hx hb hd (c1_ok h.1) (fin h.2)
    · exact h.elim
  · obtain ⟨rfl, h⟩ := h
    split at h
    · exact lv_dup2_11 hx hb hd (c1_ok h.1) (c1_ok h.2.1) (fin h.2.2)
    · exact h.elim
  · obtain ⟨rfl, h⟩ := h
    split at h
    · exact lv_pop hx hb hd (c1_ok h.1) (fin h.2)
    · exact h.elim
end
