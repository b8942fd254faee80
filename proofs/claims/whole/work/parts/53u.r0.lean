/-! THE RELATION of the class and the reference, in one memory -/
def R1 (μ : Mem) (f : Nat → Int) : Prop := (RG μ 1 f ∧ rI μ 1 5 = f 39 ∧ rI μ 1 6 = f 40 ∧ RP μ 8) ∧ (WF f ∧ f 38 ≤ 9999 ∧ (0 ≤ f 39 ∧ f 39 ≤ 999999) ∧ (0 ≤ f 40 ∧ f 40 ≤ 999999)) ∧ SG μ 15 f ∧ SW f
def R2 (μ : Mem) : Prop := rI μ 19 1 = rI μ 66 6 ∧ (0 ≤ rI μ 66 6 ∧ rI μ 66 6 ≤ 160) ∧ (∀ j, rI μ 71 j = rI μ 20 j) ∧ ∀ j, j < 160 → 0 ≤ rI μ 20 j ∧ rI μ 20 j ≤ 127
def R3 (μ : Mem) : Prop := rI μ 19 2 = rI μ 66 11 ∧ InR (rI μ 66 11) ∧ rI μ 0 7 = rI μ 66 28 ∧ InR (rI μ 66 28)
def imF (μ : Mem) (k : Nat) : Nat → Int := fun j => rI μ 67 (60 * (k + 1) + j)
def IMG (μ : Mem) (k : Nat) (h : Nat → Int) : Prop := RG μ (23 + 12 * k) h ∧ rI μ (23 + 12 * k) 5 = h 39 ∧ rI μ (23 + 12 * k) 6 = h 40 ∧ SG μ (30 + 12 * k) h ∧ WF h ∧ h 38 ≤ 9999 ∧ (0 ≤ h 39 ∧ h 39 ≤ 999999) ∧ (0 ≤ h 40 ∧ h 40 ≤ 999999) ∧ SW h
def R4 (μ : Mem) (k : Nat) : Prop := rI μ (22 + 12 * k) 2 = rI μ 69 k ∧ (rI μ 69 k = 0 ∨ rI μ 69 k = 1) ∧ RP μ (23 + 12 * k) ∧ (rI μ 69 k = 1 → IMG μ k (imF μ k))
def R5 (μ : Mem) (k : Nat) : Prop := rI μ (47 + 2 * k) 1 = rI μ 75 k ∧ rI μ (47 + 2 * k) 2 = szR μ k ∧ (-4 ≤ rI μ 75 k ∧ rI μ 75 k ≤ 2) ∧ (0 ≤ rI μ 76 k ∧ rI μ 76 k ≤ 40) ∧ ∀ y, y < 40 → rI μ (48 + 2 * k) y = rI μ 77 (40 * k + y) ∧ InR (rI μ 77 (40 * k + y))
def REL (μ : Mem) : Prop := R1 μ (rI μ 67) ∧ R2 μ ∧ R3 μ ∧ (∀ k, k < 2 → R4 μ k) ∧ ∀ k, k < 4 → R5 μ k
theorem RG.cg {μ ν : Mem} {B : Nat} {f g : Nat → Int} (h : RG μ B f) (h35 : f 35 ≤ 5) (hi : ∀ k, B ≤ k → k ≤ B + 6 → ∀ j, rI ν k j = rI μ k j) (hr : ∀ j, rR ν (B + 1) j = rR μ (B + 1) j) (hf : ∀ x, x < 39 → f x = g x) : RG ν B g := by
  obtain ⟨r1, r2, r3, r4, r5, r6⟩ := h
  refine (RG.congr (f := f) (μ := ν) ⟨r1.of hr, by rw [hi B (by omega) (by omega)]; exact r2, by rw [hi B (by omega) (by omega)]; exact r3, by rw [hi B (by omega) (by omega)]; exact r4, by rw [hi B (by omega) (by omega)]; exact r5, fun i t hi' ht => ?_⟩ hf h35)
  have := r1.1 i (by omega)
  rw [hr, hi _ (by omega) (by omega)]
  exact r6 i t hi' ht
theorem SG.cg {μ ν : Mem} {B : Nat} {f g : Nat → Int} (h : SG μ B f) (h41 : f 41 ≤ 6) (hi : ∀ k, B ≤ k → k ≤ B + 3 → ∀ j, rI ν k j = rI μ k j) (hf : ∀ x, 41 ≤ x → x < 60 → f x = g x) : SG ν B g := by
  obtain ⟨h1, h2⟩ := h
  refine ⟨by rw [hi B (by omega) (by omega), h1, hf 41 (by omega) (by omega)], fun j hj => ?_⟩
  rw [← hf 41 (by omega) (by omega)] at hj
  obtain ⟨a, b, c⟩ := h2 j hj
  rw [hi (B + 1) (by omega) (by omega), hi (B + 2) (by omega) (by omega), hi (B + 3) (by omega) (by omega), a, b, c, hf _ (by omega) (by omega), hf _ (by omega) (by omega), hf _ (by omega) (by omega)]
  exact ⟨rfl, rfl, rfl⟩
theorem SW.cg {f g : Nat → Int} (h : SW f) (h35 : f 35 = g 35) (hf : ∀ x, 41 ≤ x → x < 60 → f x = g x) : SW g := by
  obtain ⟨h1, h2⟩ := h
  refine ⟨by rw [← hf 41 (by omega) (by omega)]; exact h1, fun j hj => ?_⟩
  rw [← hf 41 (by omega) (by omega)] at hj
  have := h2 j hj
  rw [← hf (42 + 3 * j) (by omega) (by omega), ← hf (43 + 3 * j) (by omega) (by omega), ← hf (44 + 3 * j) (by omega) (by omega), ← h35]
  exact this
theorem R1.cg {μ ν : Mem} {f g : Nat → Int} (h : R1 μ f) (hi : ∀ k, ((1 ≤ k ∧ k ≤ 7) ∨ (15 ≤ k ∧ k ≤ 18)) → ∀ j, rI ν k j = rI μ k j) (hr : ∀ j, rR ν 2 j = rR μ 2 j) (h8 : RP ν 8) (hf : ∀ x, x < 60 → f x = g x) : R1 ν g := by
  obtain ⟨⟨a1, a2, a3, a4⟩, ⟨b1, b2, b3, b4⟩, c1, c2⟩ := h
  refine ⟨⟨a1.cg b1.1.2 (fun k x y j => hi k (by omega) j) hr (fun x hx => hf x (by omega)), by rw [hi 1 (by omega), a2, hf 39 (by omega)], by rw [hi 1 (by omega), a3, hf 40 (by omega)], h8⟩, ⟨b1.of (fun x hx => hf x (by omega)), by rw [← hf 38 (by omega)]; exact b2, by rw [← hf 39 (by omega)]; exact b3, by rw [← hf 40 (by omega)]; exact b4⟩, c1.cg c2.1.2 (fun k x y j => hi k (by omega) j) (fun x _ hx => hf x hx), c2.cg (hf 35 (by omega)) (fun x _ hx => hf x hx)⟩
theorem R1.mok {μ : Mem} (h : R1 μ (rI μ 67)) : MOK μ := h.2.1
theorem R2.cg {μ ν : Mem} (h : R2 μ) (h1 : rI ν 19 1 = rI μ 19 1) (h2 : rI ν 66 6 = rI μ 66 6) (h3 : ∀ j, rI ν 71 j = rI μ 71 j) (h4 : ∀ j, rI ν 20 j = rI μ 20 j) : R2 ν := by
  obtain ⟨a1, a2, a3, a4⟩ := h
  exact ⟨by rw [h1, h2]; exact a1, by rw [h2]; exact a2, fun j => by rw [h3, h4]; exact a3 j, fun j hj => by rw [h4]; exact a4 j hj⟩
theorem R3.cg {μ ν : Mem} (h : R3 μ) (h1 : rI ν 19 2 = rI μ 19 2) (h2 : rI ν 66 11 = rI μ 66 11) (h3 : rI ν 0 7 = rI μ 0 7) (h4 : rI ν 66 28 = rI μ 66 28) : R3 ν := by
  obtain ⟨a1, a2, a3, a4⟩ := h
  exact ⟨by rw [h1, h2]; exact a1, by rw [h2]; exact a2, by rw [h3, h4]; exact a3, by rw [h4]; exact a4⟩
theorem IMG.cg {μ ν : Mem} {k : Nat} {f g : Nat → Int} (h : IMG μ k f) (hi : ∀ a, 23 + 12 * k ≤ a → a ≤ 33 + 12 * k → ∀ j, rI ν a j = rI μ a j) (hr : ∀ j, rR ν (24 + 12 * k) j = rR μ (24 + 12 * k) j) (hf : ∀ x, x < 60 → f x = g x) : IMG ν k g := by
  obtain ⟨a1, a2, a3, a4, a5, a6, a7, a8, a9⟩ := h
  refine ⟨a1.cg a5.1.2 (fun c x y j => hi c (by omega) (by omega) j) (fun j => by rw [show 23 + 12 * k + 1 = 24 + 12 * k by omega]; exact hr j) (fun x hx => hf x (by omega)), by rw [hi _ (by omega) (by omega), a2, hf 39 (by omega)], by rw [hi _ (by omega) (by omega), a3, hf 40 (by omega)], a4.cg a9.1.2 (fun c x y j => hi c (by omega) (by omega) j) (fun x _ hx => hf x hx), a5.of (fun x hx => hf x (by omega)), by rw [← hf 38 (by omega)]; exact a6, by rw [← hf 39 (by omega)]; exact a7, by rw [← hf 40 (by omega)]; exact a8, a9.cg (hf 35 (by omega)) (fun x _ hx => hf x hx)⟩
theorem R4.cg {μ ν : Mem} {k : Nat} (h : R4 μ k) (h1 : rI ν (22 + 12 * k) 2 = rI μ (22 + 12 * k) 2) (h2 : rI ν 69 k = rI μ 69 k) (hi : ∀ a, 23 + 12 * k ≤ a → a ≤ 33 + 12 * k → ∀ j, rI ν a j = rI μ a j) (hr : ∀ j, rR ν (24 + 12 * k) j = rR μ (24 + 12 * k) j) (h67 : ∀ x, x < 60 → rI ν 67 (60 * (k + 1) + x) = rI μ 67 (60 * (k + 1) + x)) : R4 ν k := by
  obtain ⟨a1, a2, a3, a4⟩ := h
  refine ⟨by rw [h1, h2]; exact a1, by rw [h2]; exact a2, a3.of (fun j => by rw [show 23 + 12 * k + 1 = 24 + 12 * k by omega]; exact hr j), fun z => ?_⟩
  rw [h2] at z
  exact (a4 z).cg hi hr (fun x hx => (h67 x hx).symm)
theorem R5.cg {μ ν : Mem} {k : Nat} (h : R5 μ k) (h1 : ∀ j, rI ν (47 + 2 * k) j = rI μ (47 + 2 * k) j) (h2 : ∀ j, rI ν (48 + 2 * k) j = rI μ (48 + 2 * k) j) (h75 : rI ν 75 k = rI μ 75 k) (h76 : rI ν 76 k = rI μ 76 k) (h77 : ∀ y, y < 40 → rI ν 77 (40 * k + y) = rI μ 77 (40 * k + y)) : R5 ν k := by
  obtain ⟨a1, a2, a3, a4, a5⟩ := h
  have e : szR ν k = szR μ k := by unfold szR; rw [h75, h76]
  refine ⟨by rw [h1, h75]; exact a1, by rw [h1, e]; exact a2, by rw [h75]; exact a3, by rw [h76]; exact a4, fun y hy => ?_⟩
  rw [h2, h77 y hy]
  exact a5 y hy
/-- nothing of the relation has changed -/
theorem REL.cg {μ ν : Mem} (h : REL μ) (hi : ∀ k, ((k < 8 ∧ 0 < k) ∨ (14 < k ∧ k < 19) ∨ (19 < k ∧ k < 55) ∨ k = 67 ∨ k = 69 ∨ k = 71 ∨ k = 75 ∨ k = 76 ∨ k = 77) → ∀ j, rI ν k j = rI μ k j) (h0 : rI ν 0 7 = rI μ 0 7) (h1 : rI ν 19 1 = rI μ 19 1) (h2 : rI ν 19 2 = rI μ 19 2) (h66 : ∀ j, (j = 6 ∨ j = 11 ∨ j = 28) → rI ν 66 j = rI μ 66 j) (hr : ∀ k j, k ≠ 9 → rR ν k j = rR μ k j) (h8 : RP ν 8) : REL ν := by
  obtain ⟨a1, a2, a3, a4, a5⟩ := h
  exact ⟨a1.cg (fun k hk j => hi k (by omega) j) (fun j => hr 2 j (by omega)) h8 (fun x _ => (hi 67 (by omega) x).symm), a2.cg h1 (h66 6 (by omega)) (hi 71 (by omega)) (hi 20 (by omega)), a3.cg h2 (h66 11 (by omega)) h0 (h66 28 (by omega)), fun k hk => (a4 k hk).cg (hi _ (by omega) _) (hi 69 (by omega) _) (fun a x y j => hi a (by omega) j) (fun j => hr _ j (by omega)) (fun x _ => hi 67 (by omega) _), fun k hk => (a5 k hk).cg (hi _ (by omega)) (hi _ (by omega)) (hi 75 (by omega) _) (hi 76 (by omega) _) (fun y _ => hi 77 (by omega) _)⟩
theorem REL.fq {μ ν : Mem} (h : REL μ) (hF : FQ μ ν) : REL ν := h.cg (fun k hk j => hF.1 k (by omega) j) (hF.1 0 (by omega) 7) (hF.1 19 (by omega) 1) (hF.1 19 (by omega) 2) (fun j _ => hF.1 66 (by omega) j) (fun k j hk => hF.2.1 k j hk) hF.2.2
theorem REL.mf {μ ν : Mem} (h : REL μ) (hF : MF μ ν) : REL ν := h.cg (fun k hk j => hF.1 k (by omega) (by omega) (by omega) (by omega) (by omega) j) (hF.1 0 (by omega) (by omega) (by omega) (by omega) (by omega) 7) (hF.1 19 (by omega) (by omega) (by omega) (by omega) (by omega) 1) (hF.1 19 (by omega) (by omega) (by omega) (by omega) (by omega) 2) (fun j hj => hF.2.1 j (by omega)) (fun k j _ => hF.2.2 k j) (h.1.1.2.2.2.of (fun j => hF.2.2 _ j))
theorem FQ.e67 {μ ν : Mem} (h : FQ μ ν) : rI ν 67 = rI μ 67 := funext (fun j => h.1 67 (by omega) j)
/-- the state changes in both -/
theorem REL.up {μ ν ρ : Mem} {f : Nat → Int} (h : REL μ) (hc : CS μ ν f) (hm : MS ν ρ f) (hW : WF f) (h38 : f 38 ≤ 9999) (h39 : 0 ≤ f 39 ∧ f 39 ≤ 999999) (h40 : 0 ≤ f 40 ∧ f 40 ≤ 999999) (hs : ∀ x, 41 ≤ x → x < 60 → rI μ 67 x = f x) (h35 : rI μ 67 35 = f 35) : REL ρ := by
  obtain ⟨a1, a2, a3, a4, a5⟩ := h
  obtain ⟨c1, c2, c3, c4, c5⟩ := hc
  obtain ⟨m1, m2, m3, m4, m5⟩ := hm
  have o : ∀ k, ((k < 1 ∨ 7 < k) ∧ k ≠ 66 ∧ k ≠ 67 ∧ k ≠ 68 ∧ k ≠ 72 ∧ k ≠ 73 ∧ k ≠ 74) → ∀ j, rI ρ k j = rI μ k j := fun k hk j => by
    rw [m3 k hk.2.1 hk.2.2.1 hk.2.2.2.1 hk.2.2.2.2.1 hk.2.2.2.2.2.1 hk.2.2.2.2.2.2 j]; exact c4 k hk.1 j
  have o6 : ∀ j, (j < 13 ∨ j = 28) → rI ρ 66 j = rI μ 66 j := fun j hj => by rw [m4 j hj]; exact c4 66 (by omega) j
  have oR : ∀ k j, k ≠ 2 → rR ρ k j = rR μ k j := fun k j hk => by rw [m5]; exact c5 k j hk
  have hE : ∀ x, x < 60 → f x = rI ρ 67 x := fun x hx => (m1 x hx).symm
  have h1 : R1 ν f := ⟨⟨c1, c2, c3, a1.1.2.2.2.of (fun j => c5 _ j (by omega))⟩, ⟨hW, h38, h39, h40⟩, a1.2.2.1.cg a1.2.2.2.1.2 (fun k x y j => c4 k (by omega) j) hs, a1.2.2.2.cg h35 hs⟩
  refine ⟨h1.cg (fun k hk j => m3 k (by omega) (by omega) (by omega) (by omega) (by omega) (by omega) j) (fun j => m5 _ j) (h1.1.2.2.2.of (fun j => m5 _ j)) hE, a2.cg (o 19 (by omega) 1) (o6 6 (by omega)) (o 71 (by omega)) (o 20 (by omega)), a3.cg (o 19 (by omega) 2) (o6 11 (by omega)) (o 0 (by omega) 7) (o6 28 (by omega)), fun k hk => (a4 k hk).cg (o _ (by omega) _) (o 69 (by omega) _) (fun a x y j => o a (by omega) j) (fun j => oR _ j (by omega)) (fun x hx => by rw [m2 _ (by omega)]; exact c4 67 (by omega) _), fun k hk => (a5 k hk).cg (o _ (by omega)) (o _ (by omega)) (o 75 (by omega) _) (o 76 (by omega) _) (fun y _ => o 77 (by omega) _)⟩
/-- what else stands is as it was -/
theorem REL.ch {μ ρ : Mem} (h : REL μ) (h1 : R1 ρ (rI ρ 67)) (h2 : R2 ρ) (h3 : R3 ρ) (hi : ∀ k, ((21 < k ∧ k < 55) ∨ k = 69 ∨ k = 75 ∨ k = 76 ∨ k = 77) → ∀ j, rI ρ k j = rI μ k j) (hr : ∀ k j, (k = 24 ∨ k = 36) → rR ρ k j = rR μ k j) (h67 : ∀ j, 60 ≤ j → rI ρ 67 j = rI μ 67 j) : REL ρ :=
  ⟨h1, h2, h3, fun k hk => (h.2.2.2.1 k hk).cg (hi _ (by omega) _) (hi 69 (by omega) _) (fun a x y j => hi a (by omega) j) (fun j => hr _ j (by omega)) (fun x _ => h67 _ (by omega)), fun k hk => (h.2.2.2.2 k hk).cg (hi _ (by omega)) (hi _ (by omega)) (hi 75 (by omega) _) (hi 76 (by omega) _) (fun y _ => hi 77 (by omega) _)⟩
