theorem cls_ok {g : Gh} {h : Nat} {H : Heap} (hg : ∀ k, k < 79 → g.2.2 k = h + pm k) (hP : va_P g.1 vwCl ((h, eF_5 g (h + 1)) :: tl_5 g (h + 1)) H) : ∀ k, k < 66 → va_at g.1 vwCl (g.2.2 k, pic g mu0 k) H := by
  intro k hk
  match k, hk with
  | 0, _ => exact cc_0 hg hP
  | 1, _ => exact cc_1 hg hP
  | 2, _ => exact cc_2 hg hP
  | 3, _ => exact cc_3 hg hP
  | 4, _ => exact cc_4 hg hP
  | 5, _ => exact cc_5 hg hP
  | 6, _ => exact cc_6 hg hP
  | 7, _ => exact cc_7 hg hP
  | 8, _ => exact cc_8 hg hP
  | 9, _ => exact cc_9 hg hP
  | 10, _ => exact cc_10 hg hP
  | 11, _ => exact cc_11 hg hP
  | 12, _ => exact cc_12 hg hP
  | 13, _ => exact cc_13 hg hP
  | 14, _ => exact cc_14 hg hP
  | 15, _ => exact cc_15 hg hP
  | 16, _ => exact cc_16 hg hP
  | 17, _ => exact cc_17 hg hP
  | 18, _ => exact cc_18 hg hP
  | 19, _ => exact cc_19 hg hP
  | 20, _ => exact cc_20 hg hP
  | 21, _ => exact cc_21 hg hP
  | 22, _ => exact cc_22 hg hP
  | 23, _ => exact cc_23 hg hP
  | 24, _ => exact cc_24 hg hP
  | 25, _ => exact cc_25 hg hP
  | 26, _ => exact cc_26 hg hP
  | 27, _ => exact cc_27 hg hP
  | 28, _ => exact cc_28 hg hP
  | 29, _ => exact cc_29 hg hP
  | 30, _ => exact cc_30 hg hP
  | 31, _ => exact cc_31 hg hP
  | 32, _ => exact cc_32 hg hP
  | 33, _ => exact cc_33 hg hP
  | 34, _ => exact cc_34 hg hP
  | 35, _ => exact cc_35 hg hP
  | 36, _ => exact cc_36 hg hP
  | 37, _ => exact cc_37 hg hP
  | 38, _ => exact cc_38 hg hP
  | 39, _ => exact cc_39 hg hP
  | 40, _ => exact cc_40 hg hP
  | 41, _ => exact cc_41 hg hP
  | 42, _ => exact cc_42 hg hP
  | 43, _ => exact cc_43 hg hP
  | 44, _ => exact cc_44 hg hP
  | 45, _ => exact cc_45 hg hP
  | 46, _ => exact cc_46 hg hP
  | 47, _ => exact cc_47 hg hP
  | 48, _ => exact cc_48 hg hP
  | 49, _ => exact cc_49 hg hP
  | 50, _ => exact cc_50 hg hP
  | 51, _ => exact cc_51 hg hP
  | 52, _ => exact cc_52 hg hP
  | 53, _ => exact cc_53 hg hP
  | 54, _ => exact cc_54 hg hP
  | 55, _ => exact cc_55 hg hP
  | 56, _ => exact cc_56 hg hP
  | 57, _ => exact cc_57 hg hP
  | 58, _ => exact cc_58 hg hP
  | 59, _ => exact cc_59 hg hP
  | 60, _ => exact cc_60 hg hP
  | 61, _ => exact cc_61 hg hP
  | 62, _ => exact cc_62 hg hP
  | 63, _ => exact cc_63 hg hP
  | 64, _ => exact cc_64 hg hP
  | 65, _ => exact cc_65 hg hP
  | k + 66, hk => omega
theorem fz_o {k : Nat} (j : Nat) (h : k ≠ 66 ∧ k ≠ 67 ∧ k ≠ 69 ∧ k ≠ 70 ∧ k ≠ 75) : rI (fz mu0) k j = rI mu0 k j := by
  unfold fz fzD
  simp only [rI_wI, rI_wB]
  rw [if_neg (by omega), if_neg (by omega), if_neg (by omega), if_neg (by omega), if_neg (by omega), if_neg (by omega), if_neg (by omega), if_neg (by omega), if_neg (by omega)]
theorem mu0_0 {k : Nat} (j : Nat) (h : 54 ≤ k ∨ k = 0 ∨ (9 ≤ k ∧ k < 23) ∨ (24 ≤ k ∧ k < 35) ∨ (36 ≤ k ∧ k < 47) ∨ k = 48 ∨ k = 50 ∨ k = 52) : rI mu0 k j = 0 := by
  show (if (k = 1 ∨ k = 8 ∨ k = 23 ∨ k = 35) ∧ j = 2 then (-4 : Int) else if (k = 47 ∨ k = 49 ∨ k = 51 ∨ k = 53) ∧ (j = 1 ∨ j = 2) then -4 else 0) = 0
  rw [if_neg (by omega), if_neg (by omega)]
theorem fz_67 (j : Nat) : rI (fz mu0) 67 j = 0 := by
  unfold fz fzD
  simp only [rI_wI, rI_wB]
  rw [if_neg (by omega), if_neg (by omega)]
  by_cases z : j < 60
  · rw [if_pos ⟨trivial, z⟩, if_neg (by omega), if_pos ⟨trivial, z⟩]
  · rw [if_neg (by omega), if_neg (by omega), if_neg (by omega), if_neg (by omega), if_neg (by omega), if_neg (by omega), if_neg (by omega)]
    exact mu0_0 j (by omega)
theorem fz_66 (j : Nat) : rI (fz mu0) 66 j = 0 := by
  unfold fz fzD
  simp only [rI_wI, rI_wB]
  rw [if_neg (by omega), if_neg (by omega), if_neg (by omega)]
  by_cases z : j = 4
  · rw [if_pos ⟨trivial, z⟩]
  · rw [if_neg (by omega), if_neg (by omega), if_neg (by omega), if_neg (by omega), if_neg (by omega), if_neg (by omega)]
    exact mu0_0 j (by omega)
theorem fz_69 {j : Nat} (hj : j < 2) : rI (fz mu0) 69 j = 0 := by
  unfold fz fzD
  simp only [rI_wI, rI_wB]
  rcases (show j = 0 ∨ j = 1 by omega) with rfl | rfl
  · rw [if_neg (by omega), if_pos (by simp)]
  · rw [if_pos (by simp)]
theorem fz_75 {j : Nat} (hj : j < 4) : rI (fz mu0) 75 j = -4 := by
  unfold fz fzD
  simp only [rI_wI, rI_wB]
  rw [if_neg (by omega), if_neg (by omega), if_neg (by omega), if_neg (by omega), if_neg (by omega)]
  rcases (show j = 0 ∨ j = 1 ∨ j = 2 ∨ j = 3 by omega) with rfl | rfl | rfl | rfl
  · rw [if_neg (by omega), if_neg (by omega), if_neg (by omega), if_pos (by simp)]
  · rw [if_neg (by omega), if_neg (by omega), if_pos (by simp)]
  · rw [if_neg (by omega), if_pos (by simp)]
  · rw [if_pos (by simp)]
theorem fz_RP (B : Nat) : RP (fz mu0) B := ⟨fun i hi => by show B + 2 ≤ B + 1 + 1 + i ∧ B + 1 + 1 + i ≤ B + 6; omega, fun i j _ _ e => by have e : B + 1 + 1 + i = B + 1 + 1 + j := e; omega⟩
theorem REL0 : REL (fz mu0) := by
  have r1 : ∀ j, j ≠ 2 → rI (fz mu0) 1 j = 0 := fun j hj => by
    rw [fz_o j (by omega)]
    show (if ((1 : Nat) = 1 ∨ (1 : Nat) = 8 ∨ (1 : Nat) = 23 ∨ (1 : Nat) = 35) ∧ j = 2 then (-4 : Int) else if ((1 : Nat) = 47 ∨ (1 : Nat) = 49 ∨ (1 : Nat) = 51 ∨ (1 : Nat) = 53) ∧ (j = 1 ∨ j = 2) then -4 else 0) = 0
    rw [if_neg (by omega), if_neg (by omega)]
  have r2 : rI (fz mu0) 1 2 = -4 := by rw [fz_o 2 (by omega)]; rfl
  have z : ∀ k j, (k = 0 ∨ (9 ≤ k ∧ k < 23) ∨ (24 ≤ k ∧ k < 35) ∨ (36 ≤ k ∧ k < 47) ∨ k = 48 ∨ k = 50 ∨ k = 52 ∨ k = 54 ∨ k = 71 ∨ k = 76 ∨ k = 77) → rI (fz mu0) k j = 0 := fun k j h => by rw [fz_o j (by omega)]; exact mu0_0 j (by omega)
  refine ⟨⟨⟨⟨fz_RP 1, ?_, ?_, ?_, ?_, fun i t h _ => ?_⟩, ?_, ?_, fz_RP 8⟩, ⟨⟨?_, fun h => ?_, ?_, fun i h => ?_⟩, ?_, ?_, ?_⟩, ⟨?_, fun j h => ?_⟩, ⟨?_, fun j h => ?_⟩⟩, ⟨?_, ?_, fun j => ?_, fun j _ => ?_⟩, ⟨?_, ?_, ?_, ?_⟩, fun k hk => ⟨?_, ?_, fz_RP _, fun h => ?_⟩, fun k hk => ⟨?_, ?_, ?_, ?_, fun y hy => ?_⟩⟩
  · rw [r1 1 (by omega), fz_67]
  · rw [r2, fz_67, if_pos rfl]
  · rw [r1 3 (by omega), fz_67]
  · rw [r1 4 (by omega), fz_67]
  · rw [fz_67] at h; omega
  · rw [r1 5 (by omega), fz_67]
  · rw [r1 6 (by omega), fz_67]
  · rw [fz_67]; omega
  · rw [fz_67] at h; omega
  · rw [fz_67, fz_67]; omega
  · rw [fz_67] at h; omega
  · rw [fz_67]; omega
  · rw [fz_67]; omega
  · rw [fz_67]; omega
  · rw [z 15 3 (by omega), fz_67]
  · rw [fz_67] at h; omega
  · rw [fz_67]; omega
  · rw [fz_67] at h; omega
  · rw [z 19 1 (by omega), fz_66]
  · rw [fz_66]; omega
  · rw [z 71 j (by omega), z 20 j (by omega)]
  · rw [z 20 j (by omega)]; omega
  · rw [z 19 2 (by omega), fz_66]
  · rw [fz_66]; exact InR0
  · rw [z 0 7 (by omega), fz_66]
  · rw [fz_66]; exact InR0
  · rw [fz_69 hk, z (22 + 12 * k) 2 (by omega)]
  · exact Or.inl (fz_69 hk)
  · rw [fz_69 hk] at h; omega
  · rw [fz_75 hk, fz_o 1 (by omega)]
    rcases (show k = 0 ∨ k = 1 ∨ k = 2 ∨ k = 3 by omega) with rfl | rfl | rfl | rfl <;> rfl
  · unfold szR
    rw [fz_75 hk, if_pos rfl, fz_o 2 (by omega)]
    rcases (show k = 0 ∨ k = 1 ∨ k = 2 ∨ k = 3 by omega) with rfl | rfl | rfl | rfl <;> rfl
  · rw [fz_75 hk]; omega
  · rw [z 76 k (by omega)]; omega
  · rw [z (48 + 2 * k) y (by omega), z 77 _ (by omega)]; exact ⟨rfl, InR0⟩
