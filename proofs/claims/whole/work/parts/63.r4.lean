/-! both, side by side: text -/
theorem plN_ok {b : Nat → Int} {len : Nat} : ∀ (m n p : Nat) (D : Nat → Int) (hw : Bool), DW D hw n → (0 ≤ (plN b len m p D hw n).1 ∧ (plN b len m p D hw n).1 ≤ 7) ∧ ((plN b len m p D hw n).1 = 0 → ∃ (hw' : Bool) (n' : Nat), DW (plN b len m p D hw n).2.2.2 hw' n' ∧ ¬ (hw' = true ∧ ¬ (plN b len m p D hw n).2.2.2 36 < (plN b len m p D hw n).2.2.2 35))
  | 0, n, p, D, hw, hD => ⟨by simp [plN], fun z => by simp [plN] at z⟩
  | m + 1, n, p, D, hw, hD => by
    by_cases z : tkE b len p = true
    · simp only [plN]
      rw [if_pos z]
      exact ⟨by simp, fun y => by simp at y⟩
    · by_cases y : tkS b len p = 0
      · simp only [plN]
        rw [if_neg z, if_pos y]
        by_cases x : hw = true ∧ ¬ D 36 < D 35
        · rw [if_pos x]
          exact ⟨by simp, fun w => by simp at w⟩
        · rw [if_neg x]
          exact ⟨by simp, fun _ => ⟨hw, n, hD, x⟩⟩
      · rw [plN_s (by simpa using z) y]
        have hb := lnR_b (b := b) (len := len) (p := p) (D := D) (hw := hw)
        by_cases x : (lnR b len p D hw).1 = 0
        · rw [if_neg (fun w => w x)]
          exact plN_ok m (n + 1) _ _ _ (lnR_DW hD x)
        · rw [if_pos x]
          exact ⟨hb, fun w => absurd w x⟩
theorem cl_text {μ : Mem} (h : REL μ) (K : List AV → Mem → Prop) (hK : ∀ r1 ν, (∀ K2 : List AV → Mem → Prop, (∀ ρ, REL ρ → K2 [.inl r1] ρ) → T6_text [.inr (.inr 66)] ν K2) → K [.inl r1] ν) : T5_text [.inr (.inr 0)] μ K := by
  obtain ⟨t1, t2, t3, t4⟩ := h.2.1
  obtain ⟨len, hlen⟩ := Int.eq_ofNat_of_zero_le t2.1
  have ht : TP μ (rI μ 20) len := ⟨by rw [t1, hlen], by omega, fun _ => rfl, t4⟩
  have hR := plN_ok (b := rI μ 20) (len := len) 8 0 0 _ _ DW.z
  simp only [T5_text, true_and]
  refine ⟨rI μ 20, len, ht, h.1.1.1.1, h.1.1.2.2.2, fun z => ?_, by omega, fun z ν hν => hK _ ν (fun K2 hK2 => ?_), fun z ν hν => hK _ ν (fun K2 hK2 => ?_)⟩
  · obtain ⟨hw', n', d1, d2⟩ := hR.2 z
    exact d1.1
  · simp only [T6_text, true_and]
    obtain ⟨hw', n', d1, d2⟩ := hR.2 z
    obtain ⟨w1, w38, w39, w40, w41⟩ := d1.wf d2
    generalize hP : plN (rI μ 20) len 8 0 (fun _ => 0) false 0 = R at z hν w1 w38 w39 w40 w41 hK2 hR
    obtain ⟨a1, a2, a3, a4, a5, a6, a7, a8, a9, a10, a11⟩ := hν
    have ht' : TPm ν (rI μ 20) len := ⟨by rw [a10 66 (by omega) (by omega) (by omega)]; exact hlen, by omega, funext (fun j => by rw [a10 71 (by omega) (by omega) (by omega)]; exact t3 j), t4⟩
    refine ⟨rI μ 20, len, ht', ?_, ?_⟩
    · rw [hP]
      intro _ ρ hρ
      refine hK2 ρ ?_
      obtain ⟨b1, b2, b3, b4, b5, b6, b7, b8, b9⟩ := hρ
      have h1 : R1 ν R.2.2.2 := ⟨⟨a1, by rw [a2, w39], by rw [a3, w40], a4⟩, ⟨w1, by rw [w38]; omega, by rw [w39]; omega, by rw [w40]; omega⟩, ⟨by rw [a5, w41], fun j hj => by rw [w41] at hj; omega⟩, ⟨by rw [w41]; omega, fun j hj => by rw [w41] at hj; omega⟩⟩
      have o : ∀ k, (k = 0 ∨ 20 ≤ k) → k ≠ 22 → k ≠ 34 → k ≠ 66 → k ≠ 67 → k ≠ 69 → k ≠ 70 → ∀ j, rI ρ k j = rI μ k j := fun k p1 p2 p3 p4 p5 p6 p7 j => (b8 k p4 p5 p6 p7 j).trans (a10 k p1 p2 p3 j)
      have hRR : ∀ k j, rR ρ k j = rR μ k j := fun k j => (b9 k j).trans (a11 k j)
      refine ⟨h1.cg (fun k hk j => b8 k (by omega) (by omega) (by omega) (by omega) j) (b9 _) (a4.of (b9 _)) (fun x hx => (b1 x hx).symm), ⟨?_, ?_, fun j => ?_, fun j hj => ?_⟩, ⟨?_, ?_, ?_, ?_⟩, fun k hk => ?_, fun k hk => (h.2.2.2.2 k hk).cg (o _ (by omega) (by omega) (by omega) (by omega) (by omega) (by omega) (by omega)) (o _ (by omega) (by omega) (by omega) (by omega) (by omega) (by omega) (by omega)) (o 75 (by omega) (by omega) (by omega) (by omega) (by omega) (by omega) (by omega) _) (o 76 (by omega) (by omega) (by omega) (by omega) (by omega) (by omega) (by omega) _) (fun y _ => o 77 (by omega) (by omega) (by omega) (by omega) (by omega) (by omega) (by omega) _)⟩
      · rw [b8 19 (by omega) (by omega) (by omega) (by omega), a6, b5]
      · rw [b5]; omega
      · rw [o 71 (by omega) (by omega) (by omega) (by omega) (by omega) (by omega) (by omega), o 20 (by omega) (by omega) (by omega) (by omega) (by omega) (by omega) (by omega)]; exact t3 j
      · rw [o 20 (by omega) (by omega) (by omega) (by omega) (by omega) (by omega) (by omega)]; exact t4 j hj
      · rw [b8 19 (by omega) (by omega) (by omega) (by omega), a7, b6]
      · rw [b6]; exact ⟨by omega, by omega⟩
      · rw [b8 0 (by omega) (by omega) (by omega) (by omega), b7, a10 0 (by omega) (by omega) (by omega), a10 66 (by omega) (by omega) (by omega)]; exact h.2.2.1.2.2.1
      · rw [b7, a10 66 (by omega) (by omega) (by omega)]; exact h.2.2.1.2.2.2
      · have e69 : rI ρ 69 k = 0 := by
          rcases (show k = 0 ∨ k = 1 by omega) with rfl | rfl
          · exact b3
          · exact b4
        have e22 : rI ρ (22 + 12 * k) 2 = 0 := by
          rw [b8 _ (by omega) (by omega) (by omega) (by omega)]
          rcases (show k = 0 ∨ k = 1 by omega) with rfl | rfl
          · exact a8
          · exact a9
        exact ⟨by rw [e69, e22], Or.inl e69, (h.2.2.2.1 k hk).2.2.1.of (hRR _), fun y => by rw [e69] at y; omega⟩
    · rw [hP]
      exact fun y => absurd z y
  · simp only [T6_text, true_and]
    generalize hP : plN (rI μ 20) len 8 0 (fun _ => 0) false 0 = R at z hν hK2 hR
    obtain ⟨a1, a2, a3, a4, a5⟩ := hν
    have ht' : TPm ν (rI μ 20) len := ⟨by rw [a4 66 (by omega) (by omega)]; exact hlen, by omega, funext (fun j => by rw [a4 71 (by omega) (by omega)]; exact t3 j), t4⟩
    refine ⟨rI μ 20, len, ht', ?_, ?_⟩
    · rw [hP]
      exact fun y => absurd y z
    · rw [hP]
      intro _ ρ hρ
      refine hK2 ρ ?_
      obtain ⟨b1, b2, b3, b4, b5⟩ := hρ
      have o : ∀ k, k ≠ 19 → (k < 8 ∨ 14 < k) → k ≠ 66 → k ≠ 70 → ∀ j, rI ρ k j = rI μ k j := fun k p1 p2 p3 p4 j => (b4 k p3 p4 j).trans (a4 k p1 p2 j)
      have hRR : ∀ k j, rR ρ k j = rR μ k j := fun k j => (b5 k j).trans (a5 k j)
      refine h.ch (h.1.cg (fun k hk j => o k (by omega) (by omega) (by omega) (by omega) j) (hRR _) (a1.of (b5 _)) (fun x _ => (o 67 (by omega) (by omega) (by omega) (by omega) x).symm)) ⟨?_, ?_, fun j => ?_, fun j hj => ?_⟩ ⟨?_, ?_, ?_, ?_⟩ (fun k hk j => o k (by omega) (by omega) (by omega) (by omega) j) (fun k j _ => hRR k j) (fun j _ => o 67 (by omega) (by omega) (by omega) (by omega) j)
      · rw [b4 19 (by omega) (by omega), a2, b1]
      · rw [b1]; omega
      · rw [o 71 (by omega) (by omega) (by omega) (by omega), o 20 (by omega) (by omega) (by omega) (by omega)]; exact t3 j
      · rw [o 20 (by omega) (by omega) (by omega) (by omega)]; exact t4 j hj
      · rw [b4 19 (by omega) (by omega), a3, b2]
      · rw [b2]; exact ⟨by omega, by omega⟩
      · rw [o 0 (by omega) (by omega) (by omega) (by omega), b3, a4 66 (by omega) (by omega)]; exact h.2.2.1.2.2.1
      · rw [b3, a4 66 (by omega) (by omega)]; exact h.2.2.1.2.2.2
