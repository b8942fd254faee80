section
variable {p : Program} {l : Launch} {e : Env} {R : Room} {s : State} {m : MethodId} {args : Array Value} {below : List Frame} {meth : Method} {c : Code} {cells slots : Nat} {Q : State → Prop}
variable {cc : ByteArray} {A : Nat → Prop} {g : Gh} {nL d : Nat} {own : String}
variable {F : Nat → Option (Nat × Nat × Nat × Nat)} {Cn : Nat → Option AV} {G : Nat → Option (Nat × Bool × TT)} {rk : Nat} {K : List AV → Mem → Prop} {go : Nat → List (Option AV) → List AV → Mem → Prop}
variable {pc : Nat} {L : List (Option AV)} {stk : List AV} {μ : Mem} {len : Nat}
/-- getfield -/
theorem s_get (C : CF p R s m args c cc nL own g A cells slots d) (hF : ∀ i q, F i = some q → FOK own i q) (hgo : ∀ pc L stk μ, go pc L stk μ → VV p l e R s m args below meth c nL g A cells slots Q pc L stk μ) {i : Nat} (hd : decode cc pc = .ok (.getfield i, len)) (h : stp F Cn G rk K go pc L stk μ len (.getfield i)) : VV p l e R s m args below meth c nL g A cells slots Q pc L stk μ := by
  intro hl H locs ls hP hS hv
  obtain ⟨⟨hx, hb, hml, hown, hts⟩, hK, hi, hST, hA, hc1, hc2, hd1, hd2⟩ := C
  obtain ⟨rfl, h⟩ := h
  split at h
  · rename_i k r
    split at h
    · rename_i ci j so off hq
      obtain ⟨hk, h⟩ := h
      obtain ⟨CC, T, N, ty0, f1, f2, f3, f4, f5, f6, f7, f8, f9⟩ := hF _ _ hq
      dsimp only at f1 f2 f3 f7 f8 f9
      have hk79 : k < 79 := kd_lt hk (by omega) (by omega)
      have he := wl_get g μ hk79
      rw [pic_obj g μ hk f2] at he
      have hfl := flds_get g.2.2 μ k (fsp ci) 0 j
      rw [f8, Nat.zero_add] at hfl
      refine va_get hx hb hts f4 hown hK hP k he f1 j f3 (hts _ f7) (fun _ z => z) hfl hd ?_
      dsimp only [fval]
      by_cases e2 : so = 2
      · rw [if_pos e2] at h
        rw [if_pos e2]
        exact hgo _ _ _ _ h hl H locs ls hP hS hv
      · rw [if_neg e2] at h
        rw [if_neg e2]
        by_cases e1 : so = 1
        · rw [if_pos e1] at h
          rw [if_pos e1]
          exact hgo _ _ _ _ h hl H locs ls hP hS hv
        · rw [if_neg e1] at h
          rw [if_neg e1]
          exact hgo _ _ _ _ h hl H locs ls hP hS hv
    · exact h.elim
  · exact h.elim
/-- putfield -/
theorem s_put (C : CF p R s m args c cc nL own g A cells slots d) (hF : ∀ i q, F i = some q → FOK own i q) (hgo : ∀ pc L stk μ, go pc L stk μ → VV p l e R s m args below meth c nL g A cells slots Q pc L stk μ) {i : Nat} (hd : decode cc pc = .ok (.putfield i, len)) (h : stp F Cn G rk K go pc L stk μ len (.putfield i)) : VV p l e R s m args below meth c nL g A cells slots Q pc L stk μ := by
  intro hl H locs ls hP hS hv
  obtain ⟨⟨hx, hb, hml, hown, hts⟩, hK, hi, hST, hA, hc1, hc2, hd1, hd2⟩ := C
  have hD := wl_D hi hA μ
  obtain ⟨rfl, h⟩ := h
  split at h
  · rename_i ci j so off hq
    obtain ⟨CC, T, N, ty0, f1, f2, f3, f4, f5, f6, f7, f8, f9⟩ := hF _ _ hq
    dsimp only at f1 f2 f3 f7 f8 f9
    have key : ∀ (k : Nat) (x : Int) (r : List AV), kd k = ci → so ≠ 2 → narrow (if so = 1 then .long else if so = 0 then .int else .boolean) (if so = 1 then .long (Int64.ofInt x) else .int (Int32.ofInt x)) = (if so = 1 then .long (Int64.ofInt x) else .int (Int32.ofInt x)) → fits (if so = 1 then .long else if so = 0 then .int else .boolean) (if so = 1 then .long (Int64.ofInt x) else .int (Int32.ofInt x)) = true → go (pc + 3) L r (wI μ k j x) → W p l e R s m args below meth c H locs cells slots Q (F0 m pc ls ((if so = 1 then .long (Int64.ofInt x) else .int (Int32.ofInt x)) :: .ref (g.2.2 k) :: r.map (cv g.2.2))) := by
      intro k x r hk hso hn hft h
      have hk79 : k < 79 := kd_lt hk (by omega) (by omega)
      have he := wl_get g μ hk79
      rw [pic_obj g μ hk f2] at he
      obtain ⟨g1, g2, g3⟩ := f9 hso
      refine va_put hx hb hts f4 ty0 f5 f6 hown hK hP hD hS k he f1 j f3 (hts _ f7) (fun _ z => z) g1 g2 hn hft (by rw [flds_len]; exact (List.getElem?_eq_some_iff.mp f8).1) hd (fun H1 locs1 hP1 hD1 hS1 => ?_)
      rw [flds_set g.2.2 μ k (fsp ci) j x f8 hso, wl_set g μ (wI μ k j x) (pic_obj g _ hk f2).symm (fun j' hj' => pic_wI_ne g μ _ _ hj')] at hP1
      exact hgo _ _ _ _ h hl H1 locs1 ls hP1 hS1 hv
    split at h
    · rename_i x k r
      obtain ⟨hk, hso, h⟩ := h
      have h1 : so ≠ 1 := by rcases hso with z | z <;> omega
      have := key k x r hk (by rcases hso with z | z <;> omega) (by
        rw [if_neg h1, if_neg h1]
        rcases hso with z | ⟨z, z2⟩
        · rw [if_pos z]; rfl
        · rw [if_neg (by omega)]; exact n_nz z2) (by
        rw [if_neg h1, if_neg h1]
        rcases hso with z | ⟨z, z2⟩
        · rw [if_pos z]; rfl
        · rw [if_neg (by omega)]; exact n_fz z2) h
      rw [if_neg h1] at this
      exact this
    · rename_i x k r
      obtain ⟨hk, hso, h⟩ := h
      have := key k x r hk (by omega) (by rw [if_pos hso, if_pos hso]; rfl) (by rw [if_pos hso, if_pos hso]; rfl) h
      rw [if_pos hso] at this
      exact this
    · exact h.elim
  · exact h.elim
/-- rows -/
theorem s_arr (C : CF p R s m args c cc nL own g A cells slots d) (hgo : ∀ pc L stk μ, go pc L stk μ → VV p l e R s m args below meth c nL g A cells slots Q pc L stk μ) {i : Instr} (hi' : i = .iaload ∨ i = .baload ∨ i = .iastore ∨ i = .bastore ∨ i = .aaload ∨ i = .aastore) (hd : decode cc pc = .ok (i, len)) (h : stp F Cn G rk K go pc L stk μ len i) : VV p l e R s m args below meth c nL g A cells slots Q pc L stk μ := by
  intro hl H locs ls hP hS hv
  obtain ⟨⟨hx, hb, hml, hown, hts⟩, hK, hi, hST, hA, hc1, hc2, hd1, hd2⟩ := C
  have hD := wl_D hi hA μ
  rcases hi' with rfl | rfl | rfl | rfl | rfl | rfl
  · obtain ⟨rfl, h⟩ := h
    split at h
    · rename_i j k r
      by_cases h13 : kd k = 13
      · rw [if_pos h13] at h
        obtain ⟨h1, h2⟩ := h
        have hin := n_in (by omega) h1
        have hcl := n_cl (n_inb (by omega) h1)
        rcases kd13 h13 with rfl | rfl
        · exact va_ti hx hb hST.1.2 hS hin (by rw [hcl]; rfl) hd (hgo _ _ _ _ h2 hl H locs ls hP hS hv)
        · exact va_ti hx hb hST.2.1.2 hS hin (by rw [hcl]; rfl) hd (hgo _ _ _ _ h2 hl H locs ls hP hS hv)
      · rw [if_neg h13] at h
        obtain ⟨h0, h1, h2⟩ := h
        have he := wl_get g μ (kd_lt h0 (by omega) (by omega))
        rw [pic_7 g μ h0] at he
        refine va_iald hx hb hK hP k 0 he rfl (n_in (ln_lt k) h1) hd ?_
        rw [n_cl (n_inb (ln_lt k) h1)]
        exact hgo _ _ _ _ h2 hl H locs ls hP hS hv
    · exact h.elim
  · obtain ⟨rfl, h⟩ := h
    split at h
    · rename_i j k r
      obtain ⟨h0, h1, h2⟩ := h
      rcases h0 with h0 | h0
      · have he := wl_get g μ (kd_lt h0 (by omega) (by omega))
        rw [pic_8 g μ h0] at he
        refine va_bald hx hb hK hP k 1 he rfl (n_in (ln_lt k) h1) hd ?_
        rw [n_cl (n_inb (ln_lt k) h1)]
        exact hgo _ _ _ _ h2 hl H locs ls hP hS hv
      · have he := wl_get g μ (kd_lt h0 (by omega) (by omega))
        rw [pic_9 g μ h0] at he
        refine va_zald hx hb hK hP k 2 he rfl (n_in (ln_lt k) h1) hd ?_
        rw [n_cl (n_inb (ln_lt k) h1)]
        exact hgo _ _ _ _ h2 hl H locs ls hP hS hv
    · exact h.elim
  · obtain ⟨rfl, h⟩ := h
    split at h
    · rename_i x j k r
      obtain ⟨h0, h1, h2⟩ := h
      have he := wl_get g μ (kd_lt h0 (by omega) (by omega))
      rw [pic_7 g μ h0] at he
      refine va_iast hx hb hK hP hD hS k 0 he rfl (n_in (ln_lt k) h1) hd (fun H1 locs1 hP1 hD1 hS1 => ?_)
      rw [n_cl (n_inb (ln_lt k) h1), ← iarr_upd, wl_set g μ (wI μ k j.toNat x) (pic_7 g _ h0).symm (fun j' hj' => pic_wI_ne g μ _ _ hj')] at hP1
      exact hgo _ _ _ _ h2 hl H1 locs1 ls hP1 hS1 hv
    · exact h.elim
  · obtain ⟨rfl, h⟩ := h
    split at h
    · rename_i x j k r
      obtain ⟨h0, h1, h2⟩ := h
      rcases h0 with ⟨h0, x1, x2⟩ | ⟨h0, x1⟩
      · have he := wl_get g μ (kd_lt h0 (by omega) (by omega))
        rw [pic_8 g μ h0] at he
        refine va_bast hx hb hK hP hD hS k 1 he rfl (n_in (ln_lt k) h1) hd (fun H1 locs1 hP1 hD1 hS1 => ?_)
        rw [n_nb x1 x2, n_cl (n_inb (ln_lt k) h1), ← iarr_upd, wl_set g μ (wI μ k j.toNat x) (pic_8 g _ h0).symm (fun j' hj' => pic_wI_ne g μ _ _ hj')] at hP1
        exact hgo _ _ _ _ h2 hl H1 locs1 ls hP1 hS1 hv
      · have he := wl_get g μ (kd_lt h0 (by omega) (by omega))
        rw [pic_9 g μ h0] at he
        refine va_zast hx hb hK hP hD hS k 2 he rfl (n_in (ln_lt k) h1) hd (fun H1 locs1 hP1 hD1 hS1 => ?_)
        rw [n_vz x1, n_cl (n_inb (ln_lt k) h1), ← iarr_upd, wl_set g μ (wI μ k j.toNat x) (pic_9 g _ h0).symm (fun j' hj' => pic_wI_ne g μ _ _ hj')] at hP1
        exact hgo _ _ _ _ h2 hl H1 locs1 ls hP1 hS1 hv
    · exact h.elim
  · obtain ⟨rfl, h⟩ := h
    split at h
    · rename_i j k r
      obtain ⟨h0, h1, h2⟩ := h
      have hin := n_in (ln_lt k) h1
      have hcl := n_cl (n_inb (ln_lt k) h1)
      have hk79 : k < 79 := by rcases h0 with h0 | h0 | h0 | h0 <;> exact kd_lt h0 (by omega) (by omega)
      have he := wl_get g μ hk79
      have fin : W p l e R s m args below meth c H locs cells slots Q (F0 m (pc + 1) ls (va_rf (rarr g.2.2 μ k (Int32.ofInt j).toNatClampNeg) :: r.map (cv g.2.2))) := by
        rw [hcl]
        exact hgo _ _ _ _ h2 hl H locs ls hP hS hv
      rcases h0 with h0 | h0 | h0 | h0
      · rw [pic_12 g μ (Or.inl h0)] at he
        exact va_aldA hx hb hK hP k 5 he rfl hin hd fin
      · rw [pic_10 g μ h0] at he
        exact va_aldq hx hb hK hP k 3 he rfl hin hd fin
      · rw [pic_11 g μ h0] at he
        exact va_aldq hx hb hK hP k 4 he rfl hin hd fin
      · rw [pic_12 g μ (Or.inr h0)] at he
        exact va_aldA hx hb hK hP k 5 he rfl hin hd fin
    · exact h.elim
  · obtain ⟨rfl, h⟩ := h
    split at h
    · rename_i v j k r
      obtain ⟨h0, h1, h3, h2⟩ := h
      have he := wl_get g μ (kd_lt h0 (by omega) (by omega))
      have hv2 := wl_get g μ (kd_lt h3 (by omega) (by omega))
      rw [pic_12 g μ (Or.inl h0)] at he
      rw [pic_7 g μ h3] at hv2
      refine va_astA hST.2.2.1 hx hb hP hD hS k v he hv2 (n_in (ln_lt k) h1) hd (fun H1 locs1 hP1 hD1 hS1 => ?_)
      have e1 : va_up (rarr g.2.2 μ k) j.toNat (some (g.2.2 v)) = rarr g.2.2 (wR μ k j.toNat v) k := by
        funext q
        simp only [va_up, rarr, el, if_pos h0, rR_wR]
        by_cases hq : q = j.toNat <;> simp [hq]
      rw [n_cl (n_inb (ln_lt k) h1), e1, wl_set g μ (wR μ k j.toNat v) (pic_12 g _ (Or.inl h0)).symm (fun j' hj' => pic_wR_ne g μ _ _ hj')] at hP1
      exact hgo _ _ _ _ h2 hl H1 locs1 ls hP1 hS1 hv
    · exact h.elim
end
