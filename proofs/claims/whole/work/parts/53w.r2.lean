/-! both, side by side: the calls that change something -/
theorem cl_feed {μ : Mem} (h : REL μ) (c : Int) (i_c : InR c) (K : List AV → Mem → Prop) (hK : ∀ r1 ν, (∀ K2 : List AV → Mem → Prop, (∀ ρ, REL ρ → K2 [.inl r1] ρ) → T6_feed [.inr (.inr 66), .inl c] ν K2) → K [.inl r1] ν) : T5_feed [.inr (.inr 0), .inl c] μ K := by
  obtain ⟨t1, t2, t3, t4⟩ := h.2.1
  simp only [T5_feed, true_and]
  rw [t1]
  refine ⟨i_c, t2, fun z => hK _ _ (fun K2 hK2 => ?_), fun z => hK _ μ (fun K2 hK2 => ?_), fun z => hK _ μ (fun K2 hK2 => ?_)⟩
  · simp only [T6_feed, true_and]
    have e6 : rI (wI (wI μ 20 (rI μ 66 6).toNat c) 19 1 (rI μ 66 6 + 1)) 66 6 = rI μ 66 6 := by rw [rI_wI, if_neg (by omega), rI_wI, if_neg (by omega)]
    rw [e6]
    refine ⟨i_c, t2, fun _ => hK2 _ ?_, fun y => absurd z.2 (by omega), fun y => absurd z.1 y⟩
    have o : ∀ k, k ≠ 19 → k ≠ 20 → k ≠ 66 → k ≠ 71 → ∀ j, rI (wI (wI (wI (wI μ 20 (rI μ 66 6).toNat c) 19 1 (rI μ 66 6 + 1)) 71 (rI μ 66 6).toNat c) 66 6 (rI μ 66 6 + 1)) k j = rI μ k j := fun k a b c d j => by
      rw [rI_wI, if_neg (fun z => c z.1), rI_wI, if_neg (fun z => d z.1), rI_wI, if_neg (fun z => a z.1), rI_wI, if_neg (fun z => b z.1)]
    refine h.ch (h.1.cg (fun k hk j => o k (by omega) (by omega) (by omega) (by omega) j) (fun _ => rfl) (h.1.1.2.2.2.of (fun _ => rfl)) (fun x _ => (o 67 (by omega) (by omega) (by omega) (by omega) x).symm)) ⟨?_, ?_, fun j => ?_, fun j hj => ?_⟩ (h.2.2.1.cg ?_ ?_ (o 0 (by omega) (by omega) (by omega) (by omega) 7) ?_) (fun k hk j => o k (by omega) (by omega) (by omega) (by omega) j) (fun _ _ _ => rfl) (fun j _ => o 67 (by omega) (by omega) (by omega) (by omega) j)
    · simp [rI_wI]
    · rw [rI_wI, if_pos ⟨rfl, rfl⟩]; omega
    · have := t3 j
      simp only [rI_wI]
      by_cases e : j = (rI μ 66 6).toNat
      · simp [e]
      · simp [e, this]
    · have := t4 j hj
      simp only [rI_wI]
      by_cases e : j = (rI μ 66 6).toNat
      · simp [e]; omega
      · simp [e]; omega
    · simp [rI_wI]
    · simp [rI_wI]
    · simp [rI_wI]
  · simp only [T6_feed, true_and]
    exact ⟨i_c, t2, fun y => absurd z.2 (by omega), fun _ => hK2 μ h, fun y => absurd z.1 y⟩
  · simp only [T6_feed, true_and]
    exact ⟨i_c, t2, fun y => absurd y.1 z, fun y => absurd y.1 z, fun _ => hK2 μ h⟩
theorem cl_end {μ : Mem} (h : REL μ) (n : Int) (i_n : InR n) (K : List AV → Mem → Prop) (hK : ∀ r1 ν, (∀ K2 : List AV → Mem → Prop, (∀ ρ, REL ρ → K2 [.inl r1] ρ) → T6_end [.inr (.inr 66), .inl n] ν K2) → K [.inl r1] ν) : T5_end [.inr (.inr 0), .inl n] μ K := by
  obtain ⟨t1, t2, t3, t4⟩ := h.2.1
  simp only [T5_end, true_and]
  rw [t1]
  refine ⟨i_n, t2, fun z => hK _ _ (fun K2 hK2 => ?_), fun z => hK _ μ (fun K2 hK2 => ?_)⟩
  · simp only [T6_end, true_and]
    have e6 : rI (wI μ 19 1 n) 66 6 = rI μ 66 6 := by rw [rI_wI, if_neg (by omega)]
    rw [e6]
    refine ⟨i_n, t2, fun _ => hK2 _ ?_, fun y => absurd z y⟩
    have o : ∀ k, k ≠ 19 → k ≠ 66 → ∀ j, rI (wI (wI μ 19 1 n) 66 6 n) k j = rI μ k j := fun k a c j => by
      rw [rI_wI, if_neg (fun z => c z.1), rI_wI, if_neg (fun z => a z.1)]
    refine h.ch (h.1.cg (fun k hk j => o k (by omega) (by omega) j) (fun _ => rfl) (h.1.1.2.2.2.of (fun _ => rfl)) (fun x _ => (o 67 (by omega) (by omega) x).symm)) ⟨?_, ?_, fun j => ?_, fun j hj => ?_⟩ (h.2.2.1.cg ?_ ?_ (o 0 (by omega) (by omega) 7) ?_) (fun k hk j => o k (by omega) (by omega) j) (fun _ _ _ => rfl) (fun j _ => o 67 (by omega) (by omega) j)
    · simp [rI_wI]
    · rw [rI_wI, if_pos ⟨rfl, rfl⟩]; omega
    · rw [o 71 (by omega) (by omega), o 20 (by omega) (by omega)]; exact t3 j
    · rw [o 20 (by omega) (by omega)]; exact t4 j hj
    · simp [rI_wI]
    · simp [rI_wI]
    · simp [rI_wI]
  · simp only [T6_end, true_and]
    exact ⟨i_n, t2, fun y => absurd y z, fun _ => hK2 μ h⟩
theorem cl_alter {μ : Mem} (h : REL μ) (i w v : Int) (i_i : InR i) (i_w : InR w) (i_v : InR v) (K : List AV → Mem → Prop) (hK : ∀ r1 ν, (∀ K2 : List AV → Mem → Prop, (∀ ρ, REL ρ → K2 [.inl r1] ρ) → T6_alter [.inr (.inr 66), .inl i, .inl w, .inl v] ν K2) → K [.inl r1] ν) : T5_alter [.inr (.inr 0), .inl i, .inl w, .inl v] μ K := by
  have hW := h.1.2.1.1
  have h35 := hW.1
  simp only [T5_alter, true_and]
  refine ⟨i_i, i_w, i_v, rI μ 67, h.1.1.1, h35, fun z => hK _ _ (fun K2 hK2 => ?_), fun z => hK _ μ (fun K2 hK2 => ?_)⟩
  · simp only [T6_alter, true_and]
    have z' := z
    unfold altOK at z
    obtain ⟨i', rfl⟩ := Int.eq_ofNat_of_zero_le z.1.1
    obtain ⟨w', rfl⟩ := Int.eq_ofNat_of_zero_le z.2.1.1
    rw [Int.toNat_natCast, Int.toNat_natCast]
    have hr : 3 ≤ rR μ 2 i' ∧ rR μ 2 i' ≤ 7 := h.1.1.1.1.1 i' (by omega)
    have o : ∀ k, (k < 3 ∨ 7 < k) → ∀ j, rI (wI μ (rR μ 2 i') w' v) k j = rI μ k j := fun k hk j => by rw [rI_wI, if_neg (by omega)]
    have e67 : rI (wI μ (rR μ 2 i') w' v) 67 = rI μ 67 := funext (fun j => o 67 (by omega) j)
    rw [e67]
    refine ⟨i_i, i_w, i_v, h35, fun _ => hK2 _ ?_, fun y => absurd z' y⟩
    have hc : CS μ (wI μ (rR μ 2 i') w' v) (upF (rI μ 67) (7 * i' + w') v) := ⟨h.1.1.1.set h35.2 (by omega) (by omega) v, by rw [o 1 (by omega), h.1.1.2.1, upF_n _ _ (by omega)], by rw [o 1 (by omega), h.1.1.2.2.1, upF_n _ _ (by omega)], fun k hk j => o k (by omega) j, fun _ _ _ => rfl⟩
    have hm : MS (wI μ (rR μ 2 i') w' v) (wI (wI μ (rR μ 2 i') w' v) 67 (7 * i' + w') v) (upF (rI μ 67) (7 * i' + w') v) := ⟨fun j _ => by
        rw [rI_wI]
        unfold upF
        by_cases e : j = 7 * i' + w'
        · rw [if_pos ⟨rfl, e⟩, if_pos e]
        · rw [if_neg (fun y => e y.2), if_neg e, e67], fun j hj => by rw [rI_wI, if_neg (by omega)], fun k _ b _ _ _ _ j => by rw [rI_wI, if_neg (fun y => b y.1)], fun j _ => by rw [rI_wI, if_neg (by omega)], fun _ _ => rfl⟩
    have hb : (w' = 0 → 0 ≤ v ∧ v ≤ 3) ∧ (w' = 1 → 0 ≤ v ∧ v ≤ 99) ∧ (w' = 2 → 1 ≤ v ∧ v ≤ 9) ∧ (w' = 3 → 0 ≤ v ∧ v ≤ 9) ∧ (w' = 4 → 1 ≤ v ∧ v ≤ 9) := by
      have zz := z.2.2
      unfold loA hiA at zz
      refine ⟨fun e => ?_, fun e => ?_, fun e => ?_, fun e => ?_, fun e => ?_⟩ <;> subst e <;> simp at zz <;> exact zz
    refine h.up hc hm (hW.set (by omega) (by omega) hb) (by rw [upF_n _ _ (by omega)]; exact h.1.2.1.2.1) (by rw [upF_n _ _ (by omega)]; exact h.1.2.1.2.2.1) (by rw [upF_n _ _ (by omega)]; exact h.1.2.1.2.2.2) (fun x _ _ => (upF_n _ _ (by omega)).symm) (upF_n _ _ (by omega)).symm
  · simp only [T6_alter, true_and]
    exact ⟨i_i, i_w, i_v, h35, fun y => absurd y z, fun _ => hK2 μ h⟩
theorem cl_give {μ : Mem} (h : REL μ) (i : Int) (i_i : InR i) (K : List AV → Mem → Prop) (hK : ∀ r1 ν, (∀ K2 : List AV → Mem → Prop, (∀ ρ, REL ρ → K2 [.inl r1] ρ) → T6_give [.inr (.inr 66), .inl i] ν K2) → K [.inl r1] ν) : T5_give [.inr (.inr 0), .inl i] μ K := by
  have hW := h.1.2.1.1
  have h35 := hW.1
  obtain ⟨r1, r2, r3, r4, r5, r6⟩ := h.1.1.1
  simp only [T5_give, true_and]
  rw [r2]
  refine ⟨i_i, h35, fun z => hK _ _ (fun K2 hK2 => ?_), fun z => hK _ μ (fun K2 hK2 => ?_)⟩
  · simp only [T6_give, true_and]
    have n0 : rI μ 67 35 ≠ 0 := by omega
    rw [if_neg n0] at r3
    have o : ∀ k, k ≠ 1 → ∀ j, rI (wI μ 1 2 i) k j = rI μ k j := fun k hk j => by rw [rI_wI, if_neg (fun y => hk y.1)]
    have e67 : rI (wI μ 1 2 i) 67 = rI μ 67 := funext (fun j => o 67 (by omega) j)
    rw [e67]
    refine ⟨i_i, h35, fun _ => ?_, fun y => absurd z y⟩
    rw [r3] at hK2
    refine hK2 _ ?_
    have hc : CS μ (wI μ 1 2 i) (upF (rI μ 67) 36 i) := by
      refine ⟨⟨r1.of (fun _ => rfl), ?_, ?_, ?_, ?_, fun k t hk ht => ?_⟩, ?_, ?_, fun k hk j => o k (by omega) j, fun _ _ _ => rfl⟩
      · rw [rI_wI, if_neg (by omega), r2, upF_n _ _ (by omega)]
      · rw [rI_wI, if_pos ⟨rfl, rfl⟩, upF_n _ _ (by omega), if_neg n0, upF_s]
      · rw [rI_wI, if_neg (by omega), r4, upF_n _ _ (by omega)]
      · rw [rI_wI, if_neg (by omega), r5, upF_n _ _ (by omega)]
      · rw [upF_n _ _ (by omega)] at hk
        have hr : 3 ≤ rR μ 2 k ∧ rR μ 2 k ≤ 7 := r1.1 k (by omega)
        rw [rR_wI, o _ (by show rR μ 2 k ≠ 1; omega), upF_n _ _ (by omega)]
        exact r6 k t hk ht
      · rw [rI_wI, if_neg (by omega), h.1.1.2.1, upF_n _ _ (by omega)]
      · rw [rI_wI, if_neg (by omega), h.1.1.2.2.1, upF_n _ _ (by omega)]
    have hm : MS (wI μ 1 2 i) (wI (wI μ 1 2 i) 67 36 i) (upF (rI μ 67) 36 i) := ⟨fun j _ => by
        rw [rI_wI]
        unfold upF
        by_cases e : j = 36
        · rw [if_pos ⟨rfl, e⟩, if_pos e]
        · rw [if_neg (fun y => e y.2), if_neg e, e67], fun j hj => by rw [rI_wI, if_neg (by omega)], fun k _ b _ _ _ _ j => by rw [rI_wI, if_neg (fun y => b y.1)], fun j _ => by rw [rI_wI, if_neg (by omega)], fun _ _ => rfl⟩
    have hW2 : WF (upF (rI μ 67) 36 i) := by
      obtain ⟨w1, w2, w3, w4⟩ := hW
      refine ⟨by rw [upF_n _ _ (by omega)]; exact w1, fun _ => by rw [upF_s, upF_n _ _ (by omega)]; exact z, by rw [upF_n _ _ (by omega), upF_n _ _ (by omega)]; exact w3, fun k hk => ?_⟩
      rw [upF_n _ _ (by omega)] at hk
      exact SOK_congr (fun x hx => upF_n _ _ (by omega)) (by rw [upF_n _ _ (by omega)]; omega) (by omega) (w4 k hk)
    exact h.up hc hm hW2 (by rw [upF_n _ _ (by omega)]; exact h.1.2.1.2.1) (by rw [upF_n _ _ (by omega)]; exact h.1.2.1.2.2.1) (by rw [upF_n _ _ (by omega)]; exact h.1.2.1.2.2.2) (fun x _ _ => (upF_n _ _ (by omega)).symm) (upF_n _ _ (by omega)).symm
  · simp only [T6_give, true_and]
    exact ⟨i_i, h35, fun y => absurd y z, fun _ => hK2 μ h⟩
theorem CS.e67 {μ ν : Mem} {f : Nat → Int} (h : CS μ ν f) : rI ν 67 = rI μ 67 := funext (fun j => h.2.2.2.1 67 (by omega) j)
theorem cl_post {μ : Mem} (h : REL μ) (i n : Int) (i_i : InR i) (i_n : InR n) (K : List AV → Mem → Prop) (hK : ∀ r1 ν, (∀ K2 : List AV → Mem → Prop, (∀ ρ, REL ρ → K2 [.inl r1] ρ) → T6_post [.inr (.inr 66), .inl i, .inl n] ν K2) → K [.inl r1] ν) : T5_post [.inr (.inr 0), .inl i, .inl n] μ K := by
  have hW := h.1.2.1.1
  have h35 := hW.1
  obtain ⟨-, b38, b39, b40⟩ := h.1.2.1
  simp only [T5_post, true_and]
  refine ⟨i_i, i_n, rI μ 67, h.1.1.1, hW, b38, h.1.1.2.1, h.1.1.2.2.1, b39, b40, fun z ν hν => hK _ ν (fun K2 hK2 => ?_), fun z => hK _ μ (fun K2 hK2 => ?_)⟩
  · simp only [T6_post, true_and]
    have e67 := hν.e67
    have hM : MOK ν := by unfold MOK; rw [e67]; exact h.1.2.1
    rw [e67]
    refine ⟨i_i, i_n, hM, fun _ ρ hρ => hK2 ρ ?_, fun y => absurd z y⟩
    unfold postOK at z
    have hi : ((i.toNat : Nat) : Int) < rI μ 67 35 := by omega
    have hq := (hW.2.2.2 i.toNat hi).2.1
    refine h.up hν hρ (postF_WF hW hi z.2) (by rw [postF_o _ (by omega) _ (by omega) (by omega)]; exact b38) (by rw [postF_o _ (by omega) _ (by omega) (by omega)]; exact b39) ?_ (fun x hx _ => (postF_o _ (by omega) _ (by omega) (by omega)).symm) (postF_o _ (by omega) _ (by omega) (by omega)).symm
    unfold postF
    rw [upF_s]
    omega
  · simp only [T6_post, true_and]
    exact ⟨i_i, i_n, h.1.mok, fun y => absurd y z, fun _ => hK2 μ h⟩
theorem cl_visits {μ : Mem} (h : REL μ) (n : Int) (i_n : InR n) (K : List AV → Mem → Prop) (hK : ∀ r1 ν, (∀ K2 : List AV → Mem → Prop, (∀ ρ, REL ρ → K2 [.inl r1] ρ) → T6_visits [.inr (.inr 66), .inl n] ν K2) → K [.inl r1] ν) : T5_visits [.inr (.inr 0), .inl n] μ K := by
  have hW := h.1.2.1.1
  have h35 := hW.1
  obtain ⟨-, b38, b39, b40⟩ := h.1.2.1
  simp only [T5_visits, true_and]
  refine ⟨i_n, rI μ 67, h.1.1.1, hW, b38, h.1.1.2.1, h.1.1.2.2.1, b39, b40, fun z ν hν => hK _ ν (fun K2 hK2 => ?_), fun z => hK _ μ (fun K2 hK2 => ?_)⟩
  · simp only [T6_visits, true_and]
    have e67 := hν.e67
    have hM : MOK ν := by unfold MOK; rw [e67]; exact h.1.2.1
    rw [e67]
    refine ⟨i_n, hM, fun _ ρ hρ => hK2 ρ ?_, fun y => absurd z y⟩
    unfold visOK at z
    obtain ⟨x1, x2, x3⟩ := nx_WF (p := yes) hW n.toNat
    have hs := sum_in (p := yes) hW n.toNat
    have u : ∀ x, x < 39 → visF (rI μ 67) n.toNat x = nx yes (rI μ 67) n.toNat x := fun x hx => if_pos hx
    refine h.up hν hρ (x1.of (fun x hx => (u x hx).symm)) (by rw [u 38 (by omega), x2]; omega) ?_ ?_ (fun x hx _ => ?_) (by rw [u 35 (by omega), x3])
    · simp [visF]; omega
    · simp [visF]; omega
    · unfold visF; rw [if_neg (by omega), if_neg (by omega), if_neg (by omega)]
  · simp only [T6_visits, true_and]
    exact ⟨i_n, h.1.mok, fun y => absurd y z, fun _ => hK2 μ h⟩
theorem cl_change {μ : Mem} (h : REL μ) (i k : Int) (i_i : InR i) (i_k : InR k) (K : List AV → Mem → Prop) (hK : ∀ r1 ν, (∀ K2 : List AV → Mem → Prop, (∀ ρ, REL ρ → K2 [.inl r1] ρ) → T6_change [.inr (.inr 66), .inl i, .inl k] ν K2) → K [.inl r1] ν) : T5_change [.inr (.inr 0), .inl i, .inl k] μ K := by
  have hW := h.1.2.1.1
  have h35 := hW.1
  obtain ⟨-, b38, b39, b40⟩ := h.1.2.1
  simp only [T5_change, true_and]
  refine ⟨i_i, i_k, rI μ 67, h.1.1.1, h35, h.1.1.2.1, h.1.1.2.2.1, fun z ν hν => hK _ ν (fun K2 hK2 => ?_), fun z => hK _ μ (fun K2 hK2 => ?_)⟩
  · simp only [T6_change, true_and]
    have e67 := hν.e67
    rw [e67]
    refine ⟨i_i, i_k, h35, fun _ ρ hρ => hK2 ρ ?_, fun y => absurd z y⟩
    unfold chgOK at z
    exact h.up hν hρ (hW.swp (by omega) (by omega)) (by rw [swp_o _ _ _ (by omega)]; exact b38) (by rw [swp_o _ _ _ (by omega)]; exact b39) (by rw [swp_o _ _ _ (by omega)]; exact b40) (fun x _ _ => (swp_o _ _ _ (by omega)).symm) (swp_o _ _ _ (by omega)).symm
  · simp only [T6_change, true_and]
    exact ⟨i_i, i_k, h35, fun y => absurd y z, fun _ => hK2 μ h⟩
theorem cl_forget {μ : Mem} (h : REL μ) (n : Int) (i_n : InR n) (K : List AV → Mem → Prop) (hK : ∀ r1 ν, (∀ K2 : List AV → Mem → Prop, (∀ ρ, REL ρ → K2 [.inl r1] ρ) → T6_forget [.inr (.inr 66), .inl n] ν K2) → K [.inl r1] ν) : T5_forget [.inr (.inr 0), .inl n] μ K := by
  obtain ⟨⟨a1, a2, a3, a4⟩, ⟨b1, b2, b3, b4⟩, ⟨c1, c2⟩, ⟨d1, d2⟩⟩ := h.1
  simp only [T5_forget, true_and]
  rw [c1]
  refine ⟨i_n, d1, fun z => hK _ _ (fun K2 hK2 => ?_), fun z => hK _ μ (fun K2 hK2 => ?_)⟩
  · simp only [T6_forget, true_and]
    have e41 : rI (wI μ 15 3 n) 67 41 = rI μ 67 41 := by rw [rI_wI, if_neg (by omega)]
    rw [e41]
    refine ⟨i_n, d1, fun _ => hK2 _ ?_, fun y => absurd z y⟩
    have o : ∀ k, k ≠ 15 → k ≠ 67 → ∀ j, rI (wI (wI μ 15 3 n) 67 41 n) k j = rI μ k j := fun k a b j => by rw [rI_wI, if_neg (fun y => b y.1), rI_wI, if_neg (fun y => a y.1)]
    have o67 : ∀ x, x ≠ 41 → rI (wI (wI μ 15 3 n) 67 41 n) 67 x = rI μ 67 x := fun x hx => by rw [rI_wI, if_neg (fun y => hx y.2), rI_wI, if_neg (by omega)]
    have e67 : rI (wI (wI μ 15 3 n) 67 41 n) 67 41 = n := by rw [rI_wI, if_pos ⟨rfl, rfl⟩]
    refine h.ch ⟨⟨a1.cg b1.1.2 (fun k x y j => o k (by omega) (by omega) j) (fun _ => rfl) (fun x hx => (o67 x (by omega)).symm), by rw [o 1 (by omega) (by omega), a2, o67 39 (by omega)], by rw [o 1 (by omega) (by omega), a3, o67 40 (by omega)], a4.of (fun _ => rfl)⟩, ⟨b1.of (fun x hx => (o67 x (by omega)).symm), by rw [o67 38 (by omega)]; exact b2, by rw [o67 39 (by omega)]; exact b3, by rw [o67 40 (by omega)]; exact b4⟩, ⟨by rw [e67, rI_wI, if_neg (by omega), rI_wI, if_pos ⟨rfl, rfl⟩], fun j hj => ?_⟩, ⟨by rw [e67]; omega, fun j hj => ?_⟩⟩ (h.2.1.cg (o 19 (by omega) (by omega) 1) (o 66 (by omega) (by omega) 6) (o 71 (by omega) (by omega)) (o 20 (by omega) (by omega))) (h.2.2.1.cg (o 19 (by omega) (by omega) 2) (o 66 (by omega) (by omega) 11) (o 0 (by omega) (by omega) 7) (o 66 (by omega) (by omega) 28)) (fun k hk j => o k (by omega) (by omega) j) (fun _ _ _ => rfl) (fun j hj => o67 j (by omega))
    · rw [e67] at hj
      rw [o (15 + 1) (by omega) (by omega), o (15 + 2) (by omega) (by omega), o (15 + 3) (by omega) (by omega), o67 (42 + 3 * j) (by omega), o67 (43 + 3 * j) (by omega), o67 (44 + 3 * j) (by omega)]
      exact c2 j (by omega)
    · rw [e67] at hj
      rw [o67 (42 + 3 * j) (by omega), o67 (43 + 3 * j) (by omega), o67 (44 + 3 * j) (by omega), o67 35 (by omega)]
      exact d2 j (by omega)
  · simp only [T6_forget, true_and]
    exact ⟨i_n, d1, fun y => absurd y z, fun _ => hK2 μ h⟩
theorem cl_see {μ : Mem} (h : REL μ) (n i v : Int) (i_n : InR n) (i_i : InR i) (i_v : InR v) (K : List AV → Mem → Prop) (hK : ∀ r1 ν, (∀ K2 : List AV → Mem → Prop, (∀ ρ, REL ρ → K2 [.inl r1] ρ) → T6_see [.inr (.inr 66), .inl n, .inl i, .inl v] ν K2) → K [.inl r1] ν) : T5_see [.inr (.inr 0), .inl n, .inl i, .inl v] μ K := by
  obtain ⟨⟨a1, a2, a3, a4⟩, ⟨b1, b2, b3, b4⟩, ⟨c1, c2⟩, ⟨d1, d2⟩⟩ := h.1
  have h35 := b1.1
  simp only [T5_see, true_and]
  refine ⟨i_n, i_i, i_v, rI μ 67, a1.2.1, c1, h35, d1, fun z y => hK _ _ (fun K2 hK2 => ?_), fun z y => hK _ μ (fun K2 hK2 => ?_), fun z => hK _ μ (fun K2 hK2 => ?_)⟩
  · simp only [T6_see, true_and]
    obtain ⟨t, ht⟩ := Int.eq_ofNat_of_zero_le d1.1
    have et : (rI μ 67 41).toNat = t := by omega
    rw [et]
    generalize hν : wI (wI (wI (wI μ 16 t n) 17 t i) 18 t v) 15 3 (rI μ 67 41 + 1) = ν
    have oν : ∀ k, (k < 15 ∨ 18 < k) → ∀ j, rI ν k j = rI μ k j := fun k hk j => by rw [← hν, rI_wI, if_neg (by omega), rI_wI, if_neg (by omega), rI_wI, if_neg (by omega), rI_wI, if_neg (by omega)]
    have e67 : rI ν 67 = rI μ 67 := funext (fun j => oν 67 (by omega) j)
    rw [e67, et]
    refine ⟨i_n, i_i, i_v, h35, d1, fun _ _ => hK2 _ ?_, fun _ x => absurd y (by omega), fun x => absurd z x⟩
    generalize hρ : wI (wI (wI (wI ν 67 (42 + 3 * t) n) 67 (43 + 3 * t) i) 67 (44 + 3 * t) v) 67 41 (rI μ 67 41 + 1) = ρ
    have oρ : ∀ k, k ≠ 67 → ∀ j, rI ρ k j = rI ν k j := fun k hk j => by rw [← hρ, rI_wI, if_neg (fun w => hk w.1), rI_wI, if_neg (fun w => hk w.1), rI_wI, if_neg (fun w => hk w.1), rI_wI, if_neg (fun w => hk w.1)]
    have o : ∀ k, k ≠ 67 → (k < 15 ∨ 18 < k) → ∀ j, rI ρ k j = rI μ k j := fun k a b j => (oρ k a j).trans (oν k b j)
    have o67 : ∀ x, x ≠ 41 → x ≠ 42 + 3 * t → x ≠ 43 + 3 * t → x ≠ 44 + 3 * t → rI ρ 67 x = rI μ 67 x := fun x p1 p2 p3 p4 => by rw [← hρ, rI_wI, if_neg (fun w => p1 w.2), rI_wI, if_neg (fun w => p4 w.2), rI_wI, if_neg (fun w => p3 w.2), rI_wI, if_neg (fun w => p2 w.2), e67]
    have e41 : rI ρ 67 41 = rI μ 67 41 + 1 := by rw [← hρ, rI_wI, if_pos ⟨rfl, rfl⟩]
    have e42 : rI ρ 67 (42 + 3 * t) = n := by rw [← hρ, rI_wI, if_neg (by omega), rI_wI, if_neg (by omega), rI_wI, if_neg (by omega), rI_wI, if_pos ⟨rfl, rfl⟩]
    have e43 : rI ρ 67 (43 + 3 * t) = i := by rw [← hρ, rI_wI, if_neg (by omega), rI_wI, if_neg (by omega), rI_wI, if_pos ⟨rfl, rfl⟩]
    have e44 : rI ρ 67 (44 + 3 * t) = v := by rw [← hρ, rI_wI, if_neg (by omega), rI_wI, if_pos ⟨rfl, rfl⟩]
    have g16 : ∀ j, rI ρ 16 j = if j = t then n else rI μ 16 j := fun j => by rw [oρ 16 (by omega), ← hν]; simp [rI_wI]
    have g17 : ∀ j, rI ρ 17 j = if j = t then i else rI μ 17 j := fun j => by rw [oρ 17 (by omega), ← hν]; simp [rI_wI]
    have g18 : ∀ j, rI ρ 18 j = if j = t then v else rI μ 18 j := fun j => by rw [oρ 18 (by omega), ← hν]; simp [rI_wI]
    have hR : ∀ k j, rR ρ k j = rR μ k j := fun k j => by rw [← hρ, ← hν]; rfl
    unfold seeOK at z
    refine h.ch ⟨⟨a1.cg b1.1.2 (fun k x y j => o k (by omega) (by omega) j) (hR _) (fun x hx => (o67 x (by omega) (by omega) (by omega) (by omega)).symm), by rw [o 1 (by omega) (by omega), a2, o67 39 (by omega) (by omega) (by omega) (by omega)], by rw [o 1 (by omega) (by omega), a3, o67 40 (by omega) (by omega) (by omega) (by omega)], a4.of (hR _)⟩, ⟨b1.of (fun x hx => (o67 x (by omega) (by omega) (by omega) (by omega)).symm), by rw [o67 38 (by omega) (by omega) (by omega) (by omega)]; exact b2, by rw [o67 39 (by omega) (by omega) (by omega) (by omega)]; exact b3, by rw [o67 40 (by omega) (by omega) (by omega) (by omega)]; exact b4⟩, ⟨by rw [e41, oρ 15 (by omega), ← hν, rI_wI, if_pos ⟨rfl, rfl⟩], fun j hj => ?_⟩, ⟨by rw [e41]; omega, fun j hj => ?_⟩⟩ (h.2.1.cg (o 19 (by omega) (by omega) 1) (o 66 (by omega) (by omega) 6) (o 71 (by omega) (by omega)) (o 20 (by omega) (by omega))) (h.2.2.1.cg (o 19 (by omega) (by omega) 2) (o 66 (by omega) (by omega) 11) (o 0 (by omega) (by omega) 7) (o 66 (by omega) (by omega) 28)) (fun k hk j => o k (by omega) (by omega) j) (fun k j _ => hR k j) (fun j hj => o67 j (by omega) (by omega) (by omega) (by omega))
    · rw [e41] at hj
      show rI ρ 16 j = _ ∧ rI ρ 17 j = _ ∧ rI ρ 18 j = _
      rw [g16, g17, g18]
      by_cases e : j = t
      · subst e
        rw [if_pos rfl, if_pos rfl, if_pos rfl, e42, e43, e44]
        exact ⟨rfl, rfl, rfl⟩
      · rw [if_neg e, if_neg e, if_neg e, o67 (42 + 3 * j) (by omega) (by omega) (by omega) (by omega), o67 (43 + 3 * j) (by omega) (by omega) (by omega) (by omega), o67 (44 + 3 * j) (by omega) (by omega) (by omega) (by omega)]
        exact c2 j (by omega)
    · rw [e41] at hj
      rw [o67 35 (by omega) (by omega) (by omega) (by omega)]
      by_cases e : j = t
      · subst e
        rw [e42, e43, e44]
        exact z
      · rw [o67 (42 + 3 * j) (by omega) (by omega) (by omega) (by omega), o67 (43 + 3 * j) (by omega) (by omega) (by omega) (by omega), o67 (44 + 3 * j) (by omega) (by omega) (by omega) (by omega)]
        exact d2 j (by omega)
  · simp only [T6_see, true_and]
    exact ⟨i_n, i_i, i_v, h35, d1, fun _ x => absurd y (by omega), fun _ _ => hK2 μ h, fun x => absurd z x⟩
  · simp only [T6_see, true_and]
    exact ⟨i_n, i_i, i_v, h35, d1, fun x => absurd x z, fun x => absurd x z, fun _ => hK2 μ h⟩
