section
variable {p : Program} {l : Launch} {e : Env} {R : Room} {s : State} {m : MethodId} {args : Array Value} {below : List Frame} {meth : Method} {c : Code} {cells slots : Nat} {Q : State → Prop}
variable {cc : ByteArray} {A : Nat → Prop} {g : Gh} {nL d : Nat} {own : String}
variable {F : Nat → Option (Nat × Nat × Nat × Nat)} {Cn : Nat → Option AV} {G : Nat → Option (Nat × Bool × TT)} {rk : Nat} {K : List AV → Mem → Prop} {go : Nat → List (Option AV) → List AV → Mem → Prop}
variable {pc : Nat} {L : List (Option AV)} {stk : List AV} {μ : Mem} {len : Nat}
theorem s_if (C : CF p R s m args c cc nL own g A cells slots d) (hgo : ∀ pc L stk μ, go pc L stk μ → VV p l e R s m args below meth c nL g A cells slots Q pc L stk μ) {cn : Jvm.ClassFile.Cond} {off : Int} (hd : decode cc pc = .ok (.ifCond cn off, len)) (h : stp F Cn G rk K go pc L stk μ len (.ifCond cn off)) : VV p l e R s m args below meth c nL g A cells slots Q pc L stk μ := by
  intro hl H locs ls hP hS hv
  obtain ⟨⟨hx, hb, hml, hown, hts⟩, hK, hi, hST, hA, hc1, hc2, hd1, hd2⟩ := C
  obtain ⟨rfl, ho, h⟩ := h
  split at h
  · rename_i a r
    obtain ⟨ha, h1, h2⟩ := h
    have k1 : cnd cn a 0 → W p l e R s m args below meth c H locs cells slots Q (F0 m (tg pc off) ls (r.map (cv g.2.2))) := fun z => hgo _ _ _ _ (h1 z) hl H locs ls hP hS hv
    have k2 : ¬ cnd cn a 0 → W p l e R s m args below meth c H locs cells slots Q (F0 m (pc + 3) ls (r.map (cv g.2.2))) := fun z => hgo _ _ _ _ (h2 z) hl H locs ls hP hS hv
    have ht := tg_ok ho
    have e1 := n_eq ha InR0
    have e2 := n_lt ha InR0
    have e3 := n_lt InR0 ha
    have e4 := n_le ha InR0
    have e5 := n_le InR0 ha
    cases cn with
    | eq => exact lv_if_eq hx hb hd ht (fun z => k1 (e1.mp z)) (fun z => k2 (fun q => z (e1.mpr q)))
    | ne => exact lv_if_ne hx hb hd ht (fun z => k1 (fun q => z (e1.mpr q))) (fun z => k2 (fun q => q (e1.mp z)))
    | lt => exact lv_if_lt hx hb hd ht (fun z => k1 (e2.mp z)) (fun z => k2 (fun q => z (e2.mpr q)))
    | ge => exact lv_if_ge hx hb hd ht (fun z => k1 (e5.mp z)) (fun z => k2 (fun q => z (e5.mpr q)))
    | gt => exact lv_if_gt hx hb hd ht (fun z => k1 (e3.mp z)) (fun z => k2 (fun q => z (e3.mpr q)))
    | le => exact lv_if_le hx hb hd ht (fun z => k1 (e4.mp z)) (fun z => k2 (fun q => z (e4.mpr q)))
  · exact h.elim
theorem s_icmp (C : CF p R s m args c cc nL own g A cells slots d) (hgo : ∀ pc L stk μ, go pc L stk μ → VV p l e R s m args below meth c nL g A cells slots Q pc L stk μ) {cn : Jvm.ClassFile.Cond} {off : Int} (hd : decode cc pc = .ok (.if_icmp cn off, len)) (h : stp F Cn G rk K go pc L stk μ len (.if_icmp cn off)) : VV p l e R s m args below meth c nL g A cells slots Q pc L stk μ := by
  intro hl H locs ls hP hS hv
  obtain ⟨⟨hx, hb, hml, hown, hts⟩, hK, hi, hST, hA, hc1, hc2, hd1, hd2⟩ := C
  obtain ⟨rfl, ho, h⟩ := h
  split at h
  · rename_i b a r
    obtain ⟨ha, hb', h1, h2⟩ := h
    have k1 : cnd cn a b → W p l e R s m args below meth c H locs cells slots Q (F0 m (tg pc off) ls (r.map (cv g.2.2))) := fun z => hgo _ _ _ _ (h1 z) hl H locs ls hP hS hv
    have k2 : ¬ cnd cn a b → W p l e R s m args below meth c H locs cells slots Q (F0 m (pc + 3) ls (r.map (cv g.2.2))) := fun z => hgo _ _ _ _ (h2 z) hl H locs ls hP hS hv
    have ht := tg_ok ho
    have e1 := n_eq ha hb'
    have e2 := n_lt ha hb'
    have e3 := n_lt hb' ha
    have e4 := n_le ha hb'
    have e5 := n_le hb' ha
    cases cn with
    | eq => exact lv_icmp_eq hx hb hd ht (fun z => k1 (e1.mp z)) (fun z => k2 (fun q => z (e1.mpr q)))
    | ne => exact lv_icmp_ne hx hb hd ht (fun z => k1 (fun q => z (e1.mpr q))) (fun z => k2 (fun q => q (e1.mp z)))
    | lt => exact lv_icmp_lt hx hb hd ht (fun z => k1 (e2.mp z)) (fun z => k2 (fun q => z (e2.mpr q)))
    | ge => exact lv_icmp_ge hx hb hd ht (fun z => k1 (e5.mp z)) (fun z => k2 (fun q => z (e5.mpr q)))
    | gt => exact lv_icmp_gt hx hb hd ht (fun z => k1 (e3.mp z)) (fun z => k2 (fun q => z (e3.mpr q)))
    | le => exact lv_icmp_le hx hb hd ht (fun z => k1 (e4.mp z)) (fun z => k2 (fun q => z (e4.mpr q)))
  · exact h.elim
theorem s_sw (C : CF p R s m args c cc nL own g A cells slots d) (hgo : ∀ pc L stk μ, go pc L stk μ → VV p l e R s m args below meth c nL g A cells slots Q pc L stk μ) {df lo hi : Int} {os : Array Int} (hd : decode cc pc = .ok (.tableswitch df lo hi os, len)) (h : stp F Cn G rk K go pc L stk μ len (.tableswitch df lo hi os)) : VV p l e R s m args below meth c nL g A cells slots Q pc L stk μ := by
  intro hl H locs ls hP hS hv
  obtain ⟨⟨hx, hb, hml, hown, hts⟩, hK, hij, hST, hA, hc1, hc2, hd1, hd2⟩ := C
  rw [stp_tableswitch] at h
  split at h
  · rename_i a r
    obtain ⟨ha, ⟨h1, h2, h3⟩, h4, h5⟩ := h
    by_cases ho : a < lo ∨ hi < a
    · exact lv_tableOut hx hb hd (by rw [n_toI ha]; exact ho) (tg_ok h2) (hgo _ _ _ _ (h4 ho) hl H locs ls hP hS hv)
    · have hlt : (a - lo).toNat < os.size := by omega
      have hget : os.toList[(a - lo).toNat]? = some os[(a - lo).toNat] := by rw [Array.getElem?_toList]; exact Array.getElem?_eq_getElem hlt
      have hmem : os[(a - lo).toNat] ∈ os.toList := List.mem_of_getElem? hget
      have h0 : 0 ≤ (pc : Int) + os[(a - lo).toNat] := of_decide_eq_true (List.all_eq_true.mp h1 _ hmem)
      exact lv_tableIn hx hb hd (by rw [n_toI ha]; omega) (by rw [n_toI ha]; omega) (by rw [n_toI ha]; exact Array.getElem?_eq_getElem hlt) (tg_ok h0) (hgo _ _ _ _ (swT_ok _ _ h5 _ _ hget (by omega)) hl H locs ls hP hS hv)
  · exact h.elim
theorem s_lsw (C : CF p R s m args c cc nL own g A cells slots d) (hgo : ∀ pc L stk μ, go pc L stk μ → VV p l e R s m args below meth c nL g A cells slots Q pc L stk μ) {df : Int} {ps : Array (Int × Int)} (hd : decode cc pc = .ok (.lookupswitch df ps, len)) (h : stp F Cn G rk K go pc L stk μ len (.lookupswitch df ps)) : VV p l e R s m args below meth c nL g A cells slots Q pc L stk μ := by
  intro hl H locs ls hP hS hv
  obtain ⟨⟨hx, hb, hml, hown, hts⟩, hK, hi, hST, hA, hc1, hc2, hd1, hd2⟩ := C
  rw [stp_lookupswitch] at h
  split at h
  · rename_i a r
    obtain ⟨ha, ⟨h1, h2, h3⟩, h4⟩ := h
    have h0 : 0 ≤ (pc : Int) + Op.lookupswitch.offset ps.toList df a := sw_in (P := fun o => 0 ≤ (pc : Int) + o) h2 (fun q hq => of_decide_eq_true (List.all_eq_true.mp h3 q hq))
    exact lv_lookup hx hb hd h1 (by rw [n_toI ha]) (tg_ok h0) (hgo _ _ _ _ (swL_ok _ h4) hl H locs ls hP hS hv)
  · exact h.elim
theorem s_cst (C : CF p R s m args c cc nL own g A cells slots d) (hC : ∀ i v, Cn i = some v → COK own i v) (hgo : ∀ pc L stk μ, go pc L stk μ → VV p l e R s m args below meth c nL g A cells slots Q pc L stk μ) {i : Instr} {ix : Nat} (hi' : i = .ldc ix ∨ i = .ldc2_w ix ∨ i = .getstatic ix ∨ i = .ldc_w ix) (hd : decode cc pc = .ok (i, len)) (h : stp F Cn G rk K go pc L stk μ len i) : VV p l e R s m args below meth c nL g A cells slots Q pc L stk μ := by
  intro hl H locs ls hP hS hv
  obtain ⟨⟨hx, hb, hml, hown, hts⟩, hK, hi, hST, hA, hc1, hc2, hd1, hd2⟩ := C
  rcases hi' with rfl | rfl | rfl | rfl
  · obtain ⟨rfl, h⟩ := h
    split at h
    · rename_i x hq
      exact lv_ldc hx hb hown (hts _ (hC _ _ hq)) hd (hgo _ _ _ _ h hl H locs ls hP hS hv)
    · rename_i k hq
      obtain ⟨hk, h⟩ := h
      rcases hC _ _ hq with ⟨e, z⟩ | ⟨e, z⟩ | ⟨j, hj, rfl, rfl, rfl⟩
      · omega
      · omega
      · exact va_ldcS hx hb hown (hST.2.2.2.2.1 j hj) hd (hgo _ _ _ _ h hl H locs ls hP hS hv)
    · exact h.elim
  · obtain ⟨rfl, h⟩ := h
    split at h
    · rename_i x hq
      exact lv_ldc2 hx hb hown (hts _ (hC _ _ hq)) hd (hgo _ _ _ _ h hl H locs ls hP hS hv)
    · exact h.elim
  · obtain ⟨rfl, h⟩ := h
    split at h
    · rename_i k hq
      obtain ⟨hk, h⟩ := h
      have fin : ∀ kk, k = kk → W p l e R s m args below meth c H locs cells slots Q (F0 m (pc + 3) ls (.ref (g.2.2 kk) :: stk.map (cv g.2.2))) := fun kk e => by subst e; exact hgo _ _ _ _ h hl H locs ls hP hS hv
      rcases hC _ _ hq with ⟨e, z⟩ | ⟨e, z⟩ | ⟨j, hj, e, rfl, rfl⟩
      · rcases z with z | z
        · exact va_gets hx hb hST.1.1 hS hown (hts _ z) (fun _ w => w) hd (fin _ e)
        · obtain ⟨rfl, rfl⟩ := z
          exact va_getsN hx hb hST.1.1 hS hown (va_Nw.use rfl hST.2.2.2.2.2.2.2.1) (fun _ w => w) hd (fin _ e)
      · rcases z with z | z
        · exact va_gets hx hb hST.2.1.1 hS hown (hts _ z) (fun _ w => w) hd (fin _ e)
        · obtain ⟨rfl, rfl⟩ := z
          exact va_getsN hx hb hST.2.1.1 hS hown (va_Nw.use rfl hST.2.2.2.2.2.2.2.2.1) (fun _ w => w) hd (fin _ e)
      · omega
    · exact h.elim
  · obtain ⟨rfl, h⟩ := h
    split at h
    · rename_i x hq
      exact lv_ldcw hx hb hown (hts _ (hC _ _ hq)) hd (hgo _ _ _ _ h hl H locs ls hP hS hv)
    · exact h.elim
end
