/-! both, side by side: images, sheets -/
theorem cl_keep {μ : Mem} (h : REL μ) (k : Int) (i_k : InR k) (K : List AV → Mem → Prop) (hK : ∀ r1 ν, (∀ K2 : List AV → Mem → Prop, (∀ ρ, REL ρ → K2 [.inl r1] ρ) → T6_keep [.inr (.inr 66), .inl k] ν K2) → K [.inl r1] ν) : T5_keep [.inr (.inr 0), .inl k] μ K := by
  have hW := h.1.2.1.1
  have h35 := hW.1
  simp only [T5_keep, true_and]
  refine ⟨i_k, fun z => hK _ μ (fun K2 hK2 => ?_), fun z => ?_⟩
  · simp only [T6_keep, true_and]
    exact ⟨i_k, fun _ => hK2 μ h, fun y => absurd y z⟩
  · obtain ⟨k', rfl⟩ := Int.eq_ofNat_of_zero_le z.1
    rw [Int.toNat_natCast]
    obtain ⟨x1, x2, x3, x4⟩ := h.2.2.2.1 k' (by omega)
    refine ⟨by rw [show 22 + 12 * k' + 1 = 23 + 12 * k' by omega]; exact x3, by rw [x1]; exact x2, rI μ 67, h.1.1.1, h35, fun ν hν => hK _ ν (fun K2 hK2 => ?_)⟩
    obtain ⟨p1, p2, p3, p4, p5, p6, p7, p8⟩ := hν
    rw [show 22 + 12 * k' + 1 = 23 + 12 * k' by omega] at p1 p2 p3
    rw [show 22 + 12 * k' + 8 = 30 + 12 * k' by omega] at p4 p5
    have q : ∀ a, (a < 22 + 12 * k' ∨ 33 + 12 * k' < a) → ∀ j, rI ν a j = rI μ a j := fun a ha j => p7 a (by omega) j
    simp only [T6_keep, true_and]
    rw [Int.toNat_natCast]
    refine ⟨i_k, fun y => absurd z y, fun _ => ?_⟩
    have e69 : rI ν 69 k' = rI μ 69 k' := q 69 (by omega) k'
    rw [e69]
    refine ⟨x2, ?_⟩
    rw [x1] at hK2
    refine hK2 _ ?_
    generalize hρ : wC (wI ν 69 k' 1) 67 0 67 (60 * (k' + 1)) 60 = ρ
    have o2 : ∀ a, a ≠ 67 → a ≠ 69 → ∀ j, rI ρ a j = rI ν a j := fun a b c j => by rw [← hρ, rI_wC, if_neg (fun w => b w.1), rI_wI, if_neg (fun w => c w.1)]
    have o : ∀ a, a ≠ 67 → a ≠ 69 → (a < 22 + 12 * k' ∨ 33 + 12 * k' < a) → ∀ j, rI ρ a j = rI μ a j := fun a b c d j => (o2 a b c j).trans (q a d j)
    have hR : ∀ a j, rR ρ a j = rR μ a j := fun a j => by rw [← hρ]; exact p8 a j
    have u0 : ∀ x, (x < 60 * (k' + 1) ∨ 60 * (k' + 1) + 60 ≤ x) → rI ρ 67 x = rI μ 67 x := fun x hx => by rw [← hρ, rI_wC, if_neg (by omega), rI_wI, if_neg (by omega)]; exact q 67 (by omega) x
    have u1 : ∀ x, x < 60 → rI ρ 67 (60 * (k' + 1) + x) = rI μ 67 x := fun x hx => by
      rw [← hρ, rI_wC, if_pos ⟨rfl, by omega, by omega⟩, rI_wI, if_neg (by omega), show 0 + (60 * (k' + 1) + x - 60 * (k' + 1)) = x by omega]
      exact q 67 (by omega) x
    have v69 : ∀ y, rI ρ 69 y = if y = k' then 1 else rI μ 69 y := fun y => by
      rw [← hρ, rI_wC, if_neg (by omega), rI_wI]
      by_cases e : y = k'
      · rw [if_pos ⟨rfl, e⟩, if_pos e]
      · rw [if_neg (fun w => e w.2), if_neg e]; exact q 69 (by omega) y
    have hS := h.1.2.2
    refine ⟨h.1.cg (fun a ha j => o a (by omega) (by omega) (by omega) j) (hR _) (h.1.1.2.2.2.of (hR _)) (fun x hx => (u0 x (by omega)).symm), h.2.1.cg (o 19 (by omega) (by omega) (by omega) 1) (o 66 (by omega) (by omega) (by omega) 6) (o 71 (by omega) (by omega) (by omega)) (o 20 (by omega) (by omega) (by omega)), h.2.2.1.cg (o 19 (by omega) (by omega) (by omega) 2) (o 66 (by omega) (by omega) (by omega) 11) (o 0 (by omega) (by omega) (by omega) 7) (o 66 (by omega) (by omega) (by omega) 28), fun c hc => ?_, fun c hc => (h.2.2.2.2 c hc).cg (o _ (by omega) (by omega) (by omega)) (o _ (by omega) (by omega) (by omega)) (o 75 (by omega) (by omega) (by omega) _) (o 76 (by omega) (by omega) (by omega) _) (fun y _ => o 77 (by omega) (by omega) (by omega) _)⟩
    by_cases ec : c = k'
    · subst ec
      refine ⟨by rw [o2 _ (by omega) (by omega), p6, v69, if_pos rfl], by rw [v69, if_pos rfl]; exact Or.inr rfl, x3.of (hR _), fun _ => ?_⟩
      have hI : IMG ν c (rI μ 67) := ⟨p1, by rw [p2]; exact h.1.1.2.1, by rw [p3]; exact h.1.1.2.2.1, ⟨by rw [p4]; exact hS.1.1, fun j hj => by
        have h6 := hS.2.1
        rw [p5 1 (by omega) (by omega) j (by omega), p5 2 (by omega) (by omega) j (by omega), p5 3 (by omega) (by omega) j (by omega)]
        exact hS.1.2 j hj⟩, hW, h.1.2.1.2.1, h.1.2.1.2.2.1, h.1.2.1.2.2.2, hS.2⟩
      exact hI.cg (fun a x y j => o2 a (by omega) (by omega) j) (fun j => by rw [hR]; exact (p8 _ j).symm) (fun x hx => (u1 x hx).symm)
    · exact (h.2.2.2.1 c hc).cg (o _ (by omega) (by omega) (by omega) _) (by rw [v69, if_neg ec]) (fun a x y j => o a (by omega) (by omega) (by omega) j) (hR _) (fun x hx => u0 _ (by omega))
theorem cl_back {μ : Mem} (h : REL μ) (k : Int) (i_k : InR k) (K : List AV → Mem → Prop) (hK : ∀ r1 ν, (∀ K2 : List AV → Mem → Prop, (∀ ρ, REL ρ → K2 [.inl r1] ρ) → T6_back [.inr (.inr 66), .inl k] ν K2) → K [.inl r1] ν) : T5_back [.inr (.inr 0), .inl k] μ K := by
  simp only [T5_back, true_and]
  refine ⟨i_k, fun z => hK _ μ (fun K2 hK2 => ?_), fun z => ?_⟩
  · simp only [T6_back, true_and]
    exact ⟨i_k, fun _ => hK2 μ h, fun y => absurd y z⟩
  · obtain ⟨k', rfl⟩ := Int.eq_ofNat_of_zero_le z.1
    rw [Int.toNat_natCast]
    obtain ⟨x1, x2, x3, x4⟩ := h.2.2.2.1 k' (by omega)
    have i69 : InR (rI μ 69 k') := by rcases x2 with y | y <;> rw [y] <;> exact ⟨by omega, by omega⟩
    rw [x1]
    refine ⟨h.1.1.1.1, fun y => hK _ μ (fun K2 hK2 => ?_), x2, fun y => ?_⟩
    · simp only [T6_back, true_and]
      rw [Int.toNat_natCast]
      exact ⟨i_k, fun w => absurd z w, fun _ => ⟨i69, fun _ => hK2 μ h, fun w => absurd y w⟩⟩
    · obtain ⟨m1, m2, m3, m4, m5, m6, m7, m8, m9⟩ := x4 y
      refine ⟨imF μ k', by rw [show 22 + 12 * k' + 1 = 23 + 12 * k' by omega]; exact m1, m5.1, fun ν hν => hK _ ν (fun K2 hK2 => ?_)⟩
      obtain ⟨p1, p2, p3, p4, p5, p6, p7⟩ := hν
      rw [show 22 + 12 * k' + 1 = 23 + 12 * k' by omega] at p2 p3
      rw [show 22 + 12 * k' + 8 = 30 + 12 * k' by omega] at p4 p5
      simp only [T6_back, true_and]
      rw [Int.toNat_natCast]
      have e69 : rI ν 69 k' = rI μ 69 k' := p6 69 (by omega) k'
      have e67 : ∀ j, rI ν 67 j = rI μ 67 j := p6 67 (by omega)
      rw [e69, e67]
      refine ⟨i_k, fun w => absurd z w, fun _ => ⟨i69, fun w => absurd (y.symm.trans w) (by omega), fun _ => hK2 _ ?_⟩⟩
      generalize hρ : wC ν 67 (60 * (k' + 1)) 67 0 60 = ρ
      have o2 : ∀ a, a ≠ 67 → ∀ j, rI ρ a j = rI ν a j := fun a b j => by rw [← hρ, rI_wC, if_neg (fun w => b w.1)]
      have o : ∀ a, a ≠ 67 → (a < 1 ∨ (7 < a ∧ a < 15) ∨ 18 < a) → ∀ j, rI ρ a j = rI μ a j := fun a b c j => (o2 a b j).trans (p6 a c j)
      have hR : ∀ a j, rR ρ a j = rR μ a j := fun a j => by rw [← hρ]; exact p7 a j
      have u1 : ∀ x, x < 60 → rI ρ 67 x = imF μ k' x := fun x hx => by
        rw [← hρ, rI_wC, if_pos ⟨rfl, by omega, by omega⟩, e67, show 60 * (k' + 1) + (x - 0) = 60 * (k' + 1) + x by omega]
        rfl
      have u0 : ∀ x, 60 ≤ x → rI ρ 67 x = rI μ 67 x := fun x hx => by rw [← hρ, rI_wC, if_neg (by omega)]; exact e67 x
      have h1 : R1 ν (imF μ k') := ⟨⟨p1, by rw [p2]; exact m2, by rw [p3]; exact m3, h.1.1.2.2.2.of (p7 _)⟩, ⟨m5, m6, m7, m8⟩, ⟨by rw [p4]; exact m4.1, fun j hj => by
        have h6 := m9.1
        rw [p5 1 (by omega) (by omega) j (by omega), p5 2 (by omega) (by omega) j (by omega), p5 3 (by omega) (by omega) j (by omega)]
        exact m4.2 j hj⟩, m9⟩
      refine h.ch (h1.cg (fun a ha j => o2 a (by omega) j) (fun j => by rw [hR]; exact (p7 _ j).symm) (h.1.1.2.2.2.of (hR _)) (fun x hx => (u1 x hx).symm)) (h.2.1.cg (o 19 (by omega) (by omega) 1) (o 66 (by omega) (by omega) 6) (o 71 (by omega) (by omega)) (o 20 (by omega) (by omega))) (h.2.2.1.cg (o 19 (by omega) (by omega) 2) (o 66 (by omega) (by omega) 11) (o 0 (by omega) (by omega) 7) (o 66 (by omega) (by omega) 28)) (fun a ha j => o a (by omega) (by omega) j) (fun a j _ => hR a j) u0
theorem cl_sheet {μ : Mem} (h : REL μ) (k w n : Int) (i_k : InR k) (i_w : InR w) (i_n : InR n) (K : List AV → Mem → Prop) (hK : ∀ r1 ν, (∀ K2 : List AV → Mem → Prop, (∀ ρ, REL ρ → K2 [.inl r1] ρ) → T6_sheet [.inr (.inr 66), .inl k, .inl w, .inl n] ν K2) → K [.inl r1] ν) : T5_sheet [.inr (.inr 0), .inl k, .inl w, .inl n] μ K := by
  simp only [T5_sheet, true_and]
  refine ⟨i_k, i_w, i_n, fun z => hK _ μ (fun K2 hK2 => ?_), fun z => ⟨fun y => hK _ μ (fun K2 hK2 => ?_), fun y => hK _ _ (fun K2 hK2 => ?_)⟩⟩
  · simp only [T6_sheet, true_and]
    exact ⟨i_k, i_w, i_n, fun _ => hK2 μ h, fun y => absurd y z⟩
  · simp only [T6_sheet, true_and]
    exact ⟨i_k, i_w, i_n, fun x => absurd z x, fun _ => ⟨fun _ => hK2 μ h, fun x => absurd y (by omega)⟩⟩
  · obtain ⟨k', rfl⟩ := Int.eq_ofNat_of_zero_le z.1.1
    simp only [T6_sheet, true_and]
    rw [Int.toNat_natCast]
    refine ⟨i_k, i_w, i_n, fun x => absurd z x, fun _ => ⟨fun x => absurd y (by omega), fun _ => hK2 _ ?_⟩⟩
    generalize hν : wB (wI (wI μ (47 + 2 * k') 1 w) (47 + 2 * k') 2 n) (47 + 2 * k' + 1) 40 (fun _ => 0) = ν
    generalize hρ : wZ (wI (wI ν 75 k' w) 76 k' n) 77 (40 * k') 40 = ρ
    have oν : ∀ a, (a < 47 + 2 * k' ∨ 48 + 2 * k' < a) → ∀ j, rI ν a j = rI μ a j := fun a ha j => by rw [← hν, rI_wB, if_neg (by omega), rI_wI, if_neg (by omega), rI_wI, if_neg (by omega)]
    have oρ : ∀ a, a ≠ 75 → a ≠ 76 → a ≠ 77 → ∀ j, rI ρ a j = rI ν a j := fun a b c d j => by rw [← hρ, rI_wZ, if_neg (fun x => d x.1), rI_wI, if_neg (fun x => c x.1), rI_wI, if_neg (fun x => b x.1)]
    have o : ∀ a, (a < 47 + 2 * k' ∨ 48 + 2 * k' < a) → a ≠ 75 → a ≠ 76 → a ≠ 77 → ∀ j, rI ρ a j = rI μ a j := fun a ha b c d j => (oρ a b c d j).trans (oν a ha j)
    have hR : ∀ a j, rR ρ a j = rR μ a j := fun a j => by rw [← hρ, ← hν]; rfl
    have v75 : ∀ c, rI ρ 75 c = if c = k' then w else rI μ 75 c := fun c => by
      rw [← hρ, rI_wZ, if_neg (by omega), rI_wI, if_neg (by omega), rI_wI]
      by_cases e : c = k'
      · rw [if_pos ⟨rfl, e⟩, if_pos e]
      · rw [if_neg (fun x => e x.2), if_neg e]; exact oν 75 (by omega) c
    have v76 : ∀ c, rI ρ 76 c = if c = k' then n else rI μ 76 c := fun c => by
      rw [← hρ, rI_wZ, if_neg (by omega), rI_wI]
      by_cases e : c = k'
      · rw [if_pos ⟨rfl, e⟩, if_pos e]
      · rw [if_neg (fun x => e x.2), if_neg e, rI_wI, if_neg (by omega)]; exact oν 76 (by omega) c
    have v77 : ∀ x, rI ρ 77 x = if 40 * k' ≤ x ∧ x < 40 * k' + 40 then 0 else rI μ 77 x := fun x => by
      rw [← hρ, rI_wZ]
      by_cases e : 40 * k' ≤ x ∧ x < 40 * k' + 40
      · rw [if_pos ⟨rfl, e⟩, if_pos e]
      · rw [if_neg (fun w => e w.2), if_neg e, rI_wI, if_neg (by omega), rI_wI, if_neg (by omega)]; exact oν 77 (by omega) x
    refine ⟨h.1.cg (fun a ha j => o a (by omega) (by omega) (by omega) (by omega) j) (hR _) (h.1.1.2.2.2.of (hR _)) (fun x _ => (o 67 (by omega) (by omega) (by omega) (by omega) x).symm), h.2.1.cg (o 19 (by omega) (by omega) (by omega) (by omega) 1) (o 66 (by omega) (by omega) (by omega) (by omega) 6) (o 71 (by omega) (by omega) (by omega) (by omega)) (o 20 (by omega) (by omega) (by omega) (by omega)), h.2.2.1.cg (o 19 (by omega) (by omega) (by omega) (by omega) 2) (o 66 (by omega) (by omega) (by omega) (by omega) 11) (o 0 (by omega) (by omega) (by omega) (by omega) 7) (o 66 (by omega) (by omega) (by omega) (by omega) 28), fun c hc => (h.2.2.2.1 c hc).cg (o _ (by omega) (by omega) (by omega) (by omega) _) (o 69 (by omega) (by omega) (by omega) (by omega) _) (fun a x y j => o a (by omega) (by omega) (by omega) (by omega) j) (hR _) (fun x _ => o 67 (by omega) (by omega) (by omega) (by omega) _), fun c hc => ?_⟩
    by_cases ec : c = k'
    · subst ec
      have esz : szR ρ c = n := by unfold szR; rw [v75, if_pos rfl, if_neg (by omega), v76, if_pos rfl]
      refine ⟨?_, ?_, by rw [v75, if_pos rfl]; omega, by rw [v76, if_pos rfl]; omega, fun x hx => ?_⟩
      · rw [v75, if_pos rfl, oρ _ (by omega) (by omega) (by omega), ← hν, rI_wB, if_neg (by omega), rI_wI, if_neg (by omega), rI_wI, if_pos ⟨rfl, rfl⟩]
      · rw [esz, oρ _ (by omega) (by omega) (by omega), ← hν, rI_wB, if_neg (by omega), rI_wI, if_pos ⟨rfl, rfl⟩]
      · rw [v77, if_pos ⟨by omega, by omega⟩, oρ _ (by omega) (by omega) (by omega), ← hν, rI_wB, if_pos ⟨by omega, hx⟩]
        exact ⟨rfl, by omega, by omega⟩
    · exact (h.2.2.2.2 c hc).cg (o _ (by omega) (by omega) (by omega) (by omega)) (o _ (by omega) (by omega) (by omega) (by omega)) (by rw [v75, if_neg ec]) (by rw [v76, if_neg ec]) (fun x hx => by rw [v77, if_neg (by omega)])
theorem nar_in {l v : Int} (h : InR v) : InR (narrowTo l v) := by
  unfold narrowTo
  split
  · have h1 := Int.bmod_lt (x := v) (m := 256) (by omega)
    have h2 := Int.le_bmod (x := v) (m := 256) (by omega)
    exact ⟨by omega, by omega⟩
  · split
    · have h1 := Int.bmod_lt (x := v) (m := 65536) (by omega)
      have h2 := Int.le_bmod (x := v) (m := 65536) (by omega)
      exact ⟨by omega, by omega⟩
    · exact h
theorem cl_lay {μ : Mem} (h : REL μ) (k i v : Int) (i_k : InR k) (i_i : InR i) (i_v : InR v) (K : List AV → Mem → Prop) (hK : ∀ r1 ν, (∀ K2 : List AV → Mem → Prop, (∀ ρ, REL ρ → K2 [.inl r1] ρ) → T6_lay [.inr (.inr 66), .inl k, .inl i, .inl v] ν K2) → K [.inl r1] ν) : T5_lay [.inr (.inr 0), .inl k, .inl i, .inl v] μ K := by
  simp only [T5_lay, true_and]
  refine ⟨i_k, i_i, i_v, fun z => hK _ μ (fun K2 hK2 => ?_), fun z => ?_⟩
  · simp only [T6_lay, true_and]
    exact ⟨i_k, i_i, i_v, fun _ => hK2 μ h, fun y => absurd y z⟩
  · obtain ⟨k', rfl⟩ := Int.eq_ofNat_of_zero_le z.1
    rw [Int.toNat_natCast]
    obtain ⟨y1, y2, y3, y4, y5⟩ := h.2.2.2.2 k' (by omega)
    rw [y1, y2]
    by_cases e4 : rI μ 75 k' = -4
    · have es : szR μ k' = -4 := by unfold szR; rw [if_pos e4]
      rw [es]
      refine ⟨y3, by omega, fun _ => hK _ μ (fun K2 hK2 => ?_), fun x => absurd rfl x, fun x => absurd rfl x⟩
      simp only [T6_lay, true_and]
      rw [Int.toNat_natCast]
      exact ⟨i_k, i_i, i_v, fun x => absurd z x, fun _ => ⟨y3, y4, fun _ => hK2 μ h, fun x => absurd e4 x, fun x => absurd e4 x⟩⟩
    · have es : szR μ k' = rI μ 76 k' := by unfold szR; rw [if_neg e4]
      rw [es]
      refine ⟨y3, by omega, fun x => by omega, fun _ x => hK _ μ (fun K2 hK2 => ?_), fun _ x => hK _ _ (fun K2 hK2 => ?_)⟩
      · simp only [T6_lay, true_and]
        rw [Int.toNat_natCast]
        exact ⟨i_k, i_i, i_v, fun w => absurd z w, fun _ => ⟨y3, y4, fun w => absurd w e4, fun _ _ => hK2 μ h, fun _ w => absurd w x⟩⟩
      · simp only [T6_lay, true_and]
        rw [Int.toNat_natCast, show 47 + 2 * k' + 1 = 48 + 2 * k' by omega]
        obtain ⟨i', rfl⟩ := Int.eq_ofNat_of_zero_le x.1
        rw [Int.toNat_natCast]
        generalize hnv : narrowTo (rI μ 75 k') v = nv
        have inv : InR nv := by rw [← hnv]; exact nar_in i_v
        have o1 : ∀ a, a ≠ 48 + 2 * k' → ∀ j, rI (wI μ (48 + 2 * k') i' nv) a j = rI μ a j := fun a ha j => by rw [rI_wI, if_neg (fun w => ha w.1)]
        rw [o1 75 (by omega), o1 76 (by omega), hnv]
        refine ⟨i_k, i_i, i_v, fun w => absurd z w, fun _ => ⟨y3, y4, fun w => absurd w e4, fun _ w => absurd x w, fun _ _ => hK2 _ ?_⟩⟩
        generalize hρ : wI (wI μ (48 + 2 * k') i' nv) 77 (40 * k' + i') nv = ρ
        have o : ∀ a, a ≠ 48 + 2 * k' → a ≠ 77 → ∀ j, rI ρ a j = rI μ a j := fun a ha b j => by rw [← hρ, rI_wI, if_neg (fun w => b w.1)]; exact o1 a ha j
        have hR : ∀ a j, rR ρ a j = rR μ a j := fun a j => by rw [← hρ]; rfl
        have v77 : ∀ x, rI ρ 77 x = if x = 40 * k' + i' then nv else rI μ 77 x := fun x => by
          rw [← hρ, rI_wI]
          by_cases e : x = 40 * k' + i'
          · rw [if_pos ⟨rfl, e⟩, if_pos e]
          · rw [if_neg (fun w => e w.2), if_neg e]; exact o1 77 (by omega) x
        refine ⟨h.1.cg (fun a ha j => o a (by omega) (by omega) j) (hR _) (h.1.1.2.2.2.of (hR _)) (fun x _ => (o 67 (by omega) (by omega) x).symm), h.2.1.cg (o 19 (by omega) (by omega) 1) (o 66 (by omega) (by omega) 6) (o 71 (by omega) (by omega)) (o 20 (by omega) (by omega)), h.2.2.1.cg (o 19 (by omega) (by omega) 2) (o 66 (by omega) (by omega) 11) (o 0 (by omega) (by omega) 7) (o 66 (by omega) (by omega) 28), fun c hc => (h.2.2.2.1 c hc).cg (o _ (by omega) (by omega) _) (o 69 (by omega) (by omega) _) (fun a x y j => o a (by omega) (by omega) j) (hR _) (fun x _ => o 67 (by omega) (by omega) _), fun c hc => ?_⟩
        by_cases ec : c = k'
        · subst ec
          have esz : szR ρ c = szR μ c := by unfold szR; rw [o 75 (by omega) (by omega), o 76 (by omega) (by omega)]
          refine ⟨by rw [o _ (by omega) (by omega), o 75 (by omega) (by omega)]; exact y1, by rw [o _ (by omega) (by omega), esz]; exact y2, by rw [o 75 (by omega) (by omega)]; exact y3, by rw [o 76 (by omega) (by omega)]; exact y4, fun x hx => ?_⟩
          have e48 : rI ρ (48 + 2 * c) x = if x = i' then nv else rI μ (48 + 2 * c) x := by
            rw [← hρ, rI_wI, if_neg (by omega), rI_wI]
            by_cases e : x = i'
            · rw [if_pos ⟨rfl, e⟩, if_pos e]
            · rw [if_neg (fun w => e w.2), if_neg e]
          rw [e48, v77]
          by_cases e : x = i'
          · rw [if_pos e, if_pos (by omega)]; exact ⟨rfl, inv⟩
          · rw [if_neg e, if_neg (by omega)]; exact y5 x hx
        · exact (h.2.2.2.2 c hc).cg (o _ (by omega) (by omega)) (o _ (by omega) (by omega)) (o 75 (by omega) (by omega) _) (o 76 (by omega) (by omega) _) (fun x hx => by rw [v77, if_neg (by omega)])
theorem rdW_c {s n l a : Int} (hs : s ≤ 40) {c c' f : Nat → Int} (hc : ∀ y, y < 40 → c y = c' y) : ∀ m j : Nat, rdW s n l a c f m j = rdW s n l a c' f m j
  | 0, _ => rfl
  | m + 1, j => by
    simp only [rdW]
    by_cases z : fpr s n l (a + 2 * j) ≠ 0
    · rw [if_pos z, if_pos z]
    · rw [if_neg z, if_neg z]
      have h1 := fAt_z (fpr_z (Classical.not_not.mp z)).1
      have h2 := fAt_z (fpr_z (Classical.not_not.mp z)).2
      rw [hc (a + 2 * j).toNat (by omega), hc (a + 2 * j + 1).toNat (by omega), rdW_c hs hc m (j + 1)]
theorem pN_c {s n l a : Int} (hs : s ≤ 40) {c c' : Nat → Int} (f : Nat → Int) (hc : ∀ y, y < 40 → c y = c' y) : ∀ w : Nat, (∀ b, b < w → fpr s n l (a + 2 * b) = 0) → pN f a c w = pN f a c' w
  | 0, _ => rfl
  | w + 1, h => by
    have h1 := fAt_z (fpr_z (h w (by omega))).1
    have h2 := fAt_z (fpr_z (h w (by omega))).2
    simp only [pN]
    rw [hc (a + 2 * w).toNat (by omega), hc (a + 2 * w + 1).toNat (by omega), pN_c hs f hc w (fun b hb => h b (by omega))]
theorem cl_read {μ : Mem} (h : REL μ) (k l a n : Int) (i_k : InR k) (i_l : InR l) (i_a : InR a) (i_n : InR n) (K : List AV → Mem → Prop) (hK : ∀ r1 ν, (∀ K2 : List AV → Mem → Prop, (∀ ρ, REL ρ → K2 [.inl r1] ρ) → T6_read [.inr (.inr 66), .inl k, .inl l, .inl a, .inl n] ν K2) → K [.inl r1] ν) : T5_read [.inr (.inr 0), .inl k, .inl l, .inl a, .inl n] μ K := by
  have hW := h.1.2.1.1
  obtain ⟨-, b38, b39, b40⟩ := h.1.2.1
  simp only [T5_read, true_and]
  refine ⟨i_k, i_l, i_a, i_n, fun z => hK _ μ (fun K2 hK2 => ?_), fun z => ?_⟩
  · simp only [T6_read, true_and]
    exact ⟨i_k, i_l, i_a, i_n, fun _ => hK2 μ h, fun y => absurd y z⟩
  · have z' := z
    unfold rdOK at z
    obtain ⟨k', rfl⟩ := Int.eq_ofNat_of_zero_le z.1.1
    rw [Int.toNat_natCast]
    obtain ⟨y1, y2, y3, y4, y5⟩ := h.2.2.2.2 k' (by omega)
    have hs40 : szR μ k' ≤ 40 ∧ -4 ≤ szR μ k' := by unfold szR; split <;> omega
    have hcc : ∀ y, y < 40 → rI μ (48 + 2 * k') y = cR μ k' y := fun y hy => (y5 y hy).1
    have hall : ∀ y, y < 160 → InR (rI μ 77 y) := fun y hy => by
      have := ((h.2.2.2.2 (y / 40) (by omega)).2.2.2.2 (y % 40) (by omega)).2
      rw [show 40 * (y / 40) + y % 40 = y by omega] at this
      exact this
    rw [y1, y2]
    have eq : rdQ (szR μ k') (rI μ 75 k') l a (rI μ (48 + 2 * k')) (rI μ 67) n = rdQ (szR μ k') (rI μ 75 k') l a (cR μ k') (rI μ 67) n := rdW_c hs40.1 hcc _ _
    obtain ⟨w, g1, g2, g3, g4, g5⟩ := rdW_ok (s := szR μ k') (n := rI μ 75 k') (l := l) (a := a) (c := cR μ k') (f := rI μ 67) n.toNat 0
    refine ⟨rI μ 67, h.1.1.1, hW, b38, h.1.1.2.1, h.1.1.2.2.1, b39, b40, fun y hy => by rw [hcc y hy]; exact (y5 y hy).2, y3, by omega, _, rfl, ?_, ?_⟩
    · rw [eq]
      intro x
      refine hK _ μ (fun K2 hK2 => ?_)
      simp only [T6_read, true_and]
      rw [Int.toNat_natCast]
      refine ⟨i_k, i_l, i_a, i_n, fun y => absurd z' y, fun _ => ⟨h.1.mok, hall, y3, y4, _, rfl, fun _ ρ hρ => hK2 ρ ?_, fun y => absurd x y⟩⟩
      obtain ⟨m1, m2, m3, m4, m5, m6⟩ := hρ
      have o : ∀ c, c ≠ 66 → c ≠ 67 → c ≠ 68 → c ≠ 72 → c ≠ 73 → c ≠ 74 → c ≠ 78 → ∀ j, rI ρ c j = rI μ c j := m3
      exact h.ch (h.1.cg (fun c hc j => m3 c (by omega) (by omega) (by omega) (by omega) (by omega) (by omega) (by omega) j) (m6 _) (h.1.1.2.2.2.of (m6 _)) (fun x hx => (m1 x hx).symm)) (h.2.1.cg (m3 19 (by omega) (by omega) (by omega) (by omega) (by omega) (by omega) (by omega) 1) (m4 6 (by omega)) (m3 71 (by omega) (by omega) (by omega) (by omega) (by omega) (by omega) (by omega)) (m3 20 (by omega) (by omega) (by omega) (by omega) (by omega) (by omega) (by omega))) (h.2.2.1.cg (m3 19 (by omega) (by omega) (by omega) (by omega) (by omega) (by omega) (by omega) 2) (m4 11 (by omega)) (m3 0 (by omega) (by omega) (by omega) (by omega) (by omega) (by omega) (by omega) 7) m5) (fun c hc j => m3 c (by omega) (by omega) (by omega) (by omega) (by omega) (by omega) (by omega) j) (fun c j _ => m6 c j) m2
    · rw [eq]
      have ew : (rdQ (szR μ k') (rI μ 75 k') l a (cR μ k') (rI μ 67) n).1 = w := g1
      have er : -1 ≤ (rdQ (szR μ k') (rI μ 75 k') l a (cR μ k') (rI μ 67) n).2 ∧ (rdQ (szR μ k') (rI μ 75 k') l a (cR μ k') (rI μ 67) n).2 ≤ 3 := g4
      generalize hq : rdQ (szR μ k') (rI μ 75 k') l a (cR μ k') (rI μ 67) n = q at ew er
      intro x ν hν
      refine hK _ ν (fun K2 hK2 => ?_)
      rw [ew, Int.toNat_natCast] at hν
      have epN : pN (rI μ 67) a (rI μ (48 + 2 * k')) w = pN (rI μ 67) a (cR μ k') w := pN_c hs40.1 _ hcc w (fun b hb => (g5 b (by omega) hb).1)
      rw [epN] at hν
      obtain ⟨n1, n2', n3, n4, n5, n6, n7⟩ := hν
      have e67 : rI ν 67 = rI μ 67 := funext (fun j => n6 67 (by omega) j)
      have esz : szR ν k' = szR μ k' := by unfold szR; rw [n6 75 (by omega), n6 76 (by omega)]
      have ecR : cR ν k' = cR μ k' := funext (fun y => by unfold cR; rw [n6 77 (by omega)])
      have hM : MOK ν := by unfold MOK; rw [e67]; exact h.1.2.1
      simp only [T6_read, true_and]
      rw [Int.toNat_natCast, esz, ecR, e67, n6 75 (by omega), n6 76 (by omega)]
      refine ⟨i_k, i_l, i_a, i_n, fun y => absurd z' y, fun _ => ⟨hM, fun y hy => by rw [n6 77 (by omega)]; exact hall y hy, y3, y4, q, hq.symm, fun y => absurd y x, fun _ ρ hρ => hK2 ρ ?_⟩⟩
      rw [ew, Int.toNat_natCast] at hρ
      obtain ⟨m1, m2, m3, m4, m5, m6⟩ := hρ
      obtain ⟨p1, p2, p3, p4⟩ := pN_ok hW b40 (a := a) (c := cR μ k') w (fun b hb => (pok_iff _ _ _).mp (g5 b (by omega) hb).2)
      have h1 : R1 ν (pN (rI μ 67) a (cR μ k') w) := ⟨⟨n1, n2', n3, h.1.1.2.2.2.of (n7 _)⟩, ⟨p1, by rw [p2 38 (by omega) (by omega)]; exact b38, by rw [p2 39 (by omega) (by omega)]; exact b39, by rw [p3]; omega⟩, h.1.2.2.1.cg h.1.2.2.2.1.2 (fun c _ _ j => n6 c (by omega) j) (fun x hx _ => (p2 x (by omega) (by omega)).symm), h.1.2.2.2.cg (p2 35 (by omega) (by omega)).symm (fun x hx _ => (p2 x (by omega) (by omega)).symm)⟩
      have o : ∀ c, 7 < c → c ≠ 66 → c ≠ 67 → c ≠ 68 → c ≠ 72 → c ≠ 73 → c ≠ 74 → c ≠ 78 → ∀ j, rI ρ c j = rI μ c j := fun c h0 h1 h2 h3 h4 h5 h6 h7 j => (m3 c h1 h2 h3 h4 h5 h6 h7 j).trans (n6 c h0 j)
      refine h.ch (h1.cg (fun c hc j => m3 c (by omega) (by omega) (by omega) (by omega) (by omega) (by omega) (by omega) j) (m6 _) ((h.1.1.2.2.2.of (n7 _)).of (m6 _)) (fun x hx => (m1 x hx).symm)) (h.2.1.cg (o 19 (by omega) (by omega) (by omega) (by omega) (by omega) (by omega) (by omega) (by omega) 1) (by rw [m4 6 (by omega)]; exact n6 66 (by omega) 6) (o 71 (by omega) (by omega) (by omega) (by omega) (by omega) (by omega) (by omega) (by omega)) (o 20 (by omega) (by omega) (by omega) (by omega) (by omega) (by omega) (by omega) (by omega))) ⟨?_, ?_, ?_, ?_⟩ (fun c hc j => o c (by omega) (by omega) (by omega) (by omega) (by omega) (by omega) (by omega) (by omega) j) (fun c j _ => (m6 c j).trans (n7 c j)) (fun j hj => (m2 j hj).trans (n6 67 (by omega) j))
      · rw [o 19 (by omega) (by omega) (by omega) (by omega) (by omega) (by omega) (by omega) (by omega), m4 11 (by omega), n6 66 (by omega)]; exact h.2.2.1.1
      · rw [m4 11 (by omega), n6 66 (by omega)]; exact h.2.2.1.2.1
      · rw [m5, m3 0 (by omega) (by omega) (by omega) (by omega) (by omega) (by omega) (by omega)]; exact n4
      · rw [m5]; exact ⟨by omega, by omega⟩
