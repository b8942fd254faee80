/-! the tables hold what the steps ask -/
theorem lk_mem {β : Type} {l : List (Nat × β)} {i : Nat} {q : β} (h : l.lookup i = some q) : (i, q) ∈ l := by
  induction l with
  | nil => simp [List.lookup] at h
  | cons a r ih =>
    obtain ⟨k, v⟩ := a
    rw [List.lookup_cons] at h
    by_cases e : i == k
    · rw [e] at h
      simp only [beq_iff_eq] at e
      subst e
      simp only [Option.some.injEq] at h
      subst h
      exact List.mem_cons_self
    · simp only [Bool.not_eq_true] at e
      rw [e] at h
      exact List.mem_cons_of_mem _ (ih h)
theorem inG0 : ∀ w ∈ u_ws RX0 TX0 3, w ∈ gtb := by
  have h : ((u_ws RX0 TX0 3).all (fun w => decide (w ∈ lw_tbl) && goodWord w)) = true := by decide +kernel
  intro w hw
  have := List.all_eq_true.mp h w hw
  simp only [Bool.and_eq_true, decide_eq_true_eq] at this
  exact List.mem_filter.mpr this
theorem fok0 {own : String} {i j so off : Nat} (hj : j < 3) (hl : Jvm.Cond.fieldLink own i (TX0 j).1 (TX0 j).2.1 (TX0 j).2.2.1 ∈ gtb) (hs : (fsp 0)[j]? = some (so, off)) (ht : so ≠ 2 → (TX0 j).2.2.2 = false ∧ parseFieldDescriptor (TX0 j).2.2.1 = some (if so = 1 then .long else if so = 0 then .int else .boolean) ∧ so < 4) : FOK own i (0, j, so, off) := ⟨RX0, TX0, 3, tyX0, rfl, (show 0 < 7 by decide), hj, inG0, tyX0_ok, nmX0, hl, hs, ht⟩
theorem inG1 : ∀ w ∈ u_ws RX1 TX1 7, w ∈ gtb := by
  have h : ((u_ws RX1 TX1 7).all (fun w => decide (w ∈ lw_tbl) && goodWord w)) = true := by decide +kernel
  intro w hw
  have := List.all_eq_true.mp h w hw
  simp only [Bool.and_eq_true, decide_eq_true_eq] at this
  exact List.mem_filter.mpr this
theorem fok1 {own : String} {i j so off : Nat} (hj : j < 7) (hl : Jvm.Cond.fieldLink own i (TX1 j).1 (TX1 j).2.1 (TX1 j).2.2.1 ∈ gtb) (hs : (fsp 1)[j]? = some (so, off)) (ht : so ≠ 2 → (TX1 j).2.2.2 = false ∧ parseFieldDescriptor (TX1 j).2.2.1 = some (if so = 1 then .long else if so = 0 then .int else .boolean) ∧ so < 4) : FOK own i (1, j, so, off) := ⟨RX1, TX1, 7, tyX1, rfl, (show 1 < 7 by decide), hj, inG1, tyX1_ok, nmX1, hl, hs, ht⟩
theorem inG2 : ∀ w ∈ u_ws RX2 TX2 4, w ∈ gtb := by
  have h : ((u_ws RX2 TX2 4).all (fun w => decide (w ∈ lw_tbl) && goodWord w)) = true := by decide +kernel
  intro w hw
  have := List.all_eq_true.mp h w hw
  simp only [Bool.and_eq_true, decide_eq_true_eq] at this
  exact List.mem_filter.mpr this
theorem fok2 {own : String} {i j so off : Nat} (hj : j < 4) (hl : Jvm.Cond.fieldLink own i (TX2 j).1 (TX2 j).2.1 (TX2 j).2.2.1 ∈ gtb) (hs : (fsp 2)[j]? = some (so, off)) (ht : so ≠ 2 → (TX2 j).2.2.2 = false ∧ parseFieldDescriptor (TX2 j).2.2.1 = some (if so = 1 then .long else if so = 0 then .int else .boolean) ∧ so < 4) : FOK own i (2, j, so, off) := ⟨RX2, TX2, 4, tyX2, rfl, (show 2 < 7 by decide), hj, inG2, tyX2_ok, nmX2, hl, hs, ht⟩
theorem inG3 : ∀ w ∈ u_ws RX3 TX3 3, w ∈ gtb := by
  have h : ((u_ws RX3 TX3 3).all (fun w => decide (w ∈ lw_tbl) && goodWord w)) = true := by decide +kernel
  intro w hw
  have := List.all_eq_true.mp h w hw
  simp only [Bool.and_eq_true, decide_eq_true_eq] at this
  exact List.mem_filter.mpr this
theorem fok3 {own : String} {i j so off : Nat} (hj : j < 3) (hl : Jvm.Cond.fieldLink own i (TX3 j).1 (TX3 j).2.1 (TX3 j).2.2.1 ∈ gtb) (hs : (fsp 3)[j]? = some (so, off)) (ht : so ≠ 2 → (TX3 j).2.2.2 = false ∧ parseFieldDescriptor (TX3 j).2.2.1 = some (if so = 1 then .long else if so = 0 then .int else .boolean) ∧ so < 4) : FOK own i (3, j, so, off) := ⟨RX3, TX3, 3, tyX3, rfl, (show 3 < 7 by decide), hj, inG3, tyX3_ok, nmX3, hl, hs, ht⟩
theorem inG4 : ∀ w ∈ u_ws RX4 TX4 7, w ∈ gtb := by
  have h : ((u_ws RX4 TX4 7).all (fun w => decide (w ∈ lw_tbl) && goodWord w)) = true := by decide +kernel
  intro w hw
  have := List.all_eq_true.mp h w hw
  simp only [Bool.and_eq_true, decide_eq_true_eq] at this
  exact List.mem_filter.mpr this
theorem fok4 {own : String} {i j so off : Nat} (hj : j < 7) (hl : Jvm.Cond.fieldLink own i (TX4 j).1 (TX4 j).2.1 (TX4 j).2.2.1 ∈ gtb) (hs : (fsp 4)[j]? = some (so, off)) (ht : so ≠ 2 → (TX4 j).2.2.2 = false ∧ parseFieldDescriptor (TX4 j).2.2.1 = some (if so = 1 then .long else if so = 0 then .int else .boolean) ∧ so < 4) : FOK own i (4, j, so, off) := ⟨RX4, TX4, 7, tyX4, rfl, (show 4 < 7 by decide), hj, inG4, tyX4_ok, nmX4, hl, hs, ht⟩
theorem inG5 : ∀ w ∈ u_ws RX5 TX5 8, w ∈ gtb := by
  have h : ((u_ws RX5 TX5 8).all (fun w => decide (w ∈ lw_tbl) && goodWord w)) = true := by decide +kernel
  intro w hw
  have := List.all_eq_true.mp h w hw
  simp only [Bool.and_eq_true, decide_eq_true_eq] at this
  exact List.mem_filter.mpr this
theorem fok5 {own : String} {i j so off : Nat} (hj : j < 8) (hl : Jvm.Cond.fieldLink own i (TX5 j).1 (TX5 j).2.1 (TX5 j).2.2.1 ∈ gtb) (hs : (fsp 5)[j]? = some (so, off)) (ht : so ≠ 2 → (TX5 j).2.2.2 = false ∧ parseFieldDescriptor (TX5 j).2.2.1 = some (if so = 1 then .long else if so = 0 then .int else .boolean) ∧ so < 4) : FOK own i (5, j, so, off) := ⟨RX5, TX5, 8, tyX5, rfl, (show 5 < 7 by decide), hj, inG5, tyX5_ok, nmX5, hl, hs, ht⟩
theorem inG6 : ∀ w ∈ u_ws RX6 TX6 30, w ∈ gtb := by
  have h : ((u_ws RX6 TX6 30).all (fun w => decide (w ∈ lw_tbl) && goodWord w)) = true := by decide +kernel
  intro w hw
  have := List.all_eq_true.mp h w hw
  simp only [Bool.and_eq_true, decide_eq_true_eq] at this
  exact List.mem_filter.mpr this
theorem fok6 {own : String} {i j so off : Nat} (hj : j < 30) (hl : Jvm.Cond.fieldLink own i (TX6 j).1 (TX6 j).2.1 (TX6 j).2.2.1 ∈ gtb) (hs : (fsp 6)[j]? = some (so, off)) (ht : so ≠ 2 → (TX6 j).2.2.2 = false ∧ parseFieldDescriptor (TX6 j).2.2.1 = some (if so = 1 then .long else if so = 0 then .int else .boolean) ∧ so < 4) : FOK own i (6, j, so, off) := ⟨RX6, TX6, 30, tyX6, rfl, (show 6 < 7 by decide), hj, inG6, tyX6_ok, nmX6, hl, hs, ht⟩
theorem fk0_10 : FOK RX0 10 (0, 0, 2, 1) := fok0 (by decide) (mg 132 (by decide +kernel) (by decide +kernel)) rfl (fun h => absurd rfl h)
theorem fk0_19 : FOK RX0 19 (0, 1, 2, 8) := fok0 (by decide) (mg 134 (by decide +kernel) (by decide +kernel)) rfl (fun h => absurd rfl h)
theorem FOK0 : ∀ i q, FX0 i = some q → FOK RX0 i q := by
  intro i q h
  have hm : (i, q) ∈ FL0 := lk_mem h
  simp only [FL0, List.mem_cons, List.not_mem_nil, or_false, Prod.mk.injEq] at hm
  rcases hm with ⟨rfl, rfl⟩ | ⟨rfl, rfl⟩
  · exact fk0_10
  · exact fk0_19
theorem COK0 : ∀ i v, CX0 i = some v → COK RX0 i v := by
  intro i q h
  have hm : (i, q) ∈ CL0 := lk_mem h
  simp [CL0] at hm
theorem fk1_11 : FOK RX1 11 (1, 0, 2, 1) := fok1 (by decide) (mg 31 (by decide +kernel) (by decide +kernel)) rfl (fun h => absurd rfl h)
theorem fk1_20 : FOK RX1 20 (1, 1, 0, 0) := fok1 (by decide) (mg 35 (by decide +kernel) (by decide +kernel)) rfl (fun _ => ⟨by decide +kernel, by decide +kernel, by decide⟩)
theorem fk1_16 : FOK RX1 16 (1, 2, 0, 0) := fok1 (by decide) (mg 38 (by decide +kernel) (by decide +kernel)) rfl (fun _ => ⟨by decide +kernel, by decide +kernel, by decide⟩)
theorem fk1_23 : FOK RX1 23 (1, 3, 0, 0) := fok1 (by decide) (mg 41 (by decide +kernel) (by decide +kernel)) rfl (fun _ => ⟨by decide +kernel, by decide +kernel, by decide⟩)
theorem fk1_26 : FOK RX1 26 (1, 4, 0, 0) := fok1 (by decide) (mg 43 (by decide +kernel) (by decide +kernel)) rfl (fun _ => ⟨by decide +kernel, by decide +kernel, by decide⟩)
theorem fk1_29 : FOK RX1 29 (1, 5, 0, 0) := fok1 (by decide) (mg 45 (by decide +kernel) (by decide +kernel)) rfl (fun _ => ⟨by decide +kernel, by decide +kernel, by decide⟩)
theorem fk1_32 : FOK RX1 32 (1, 6, 0, 0) := fok1 (by decide) (mg 47 (by decide +kernel) (by decide +kernel)) rfl (fun _ => ⟨by decide +kernel, by decide +kernel, by decide⟩)
theorem FOK1 : ∀ i q, FX1 i = some q → FOK RX1 i q := by
  intro i q h
  have hm : (i, q) ∈ FL1 := lk_mem h
  simp only [FL1, List.mem_cons, List.not_mem_nil, or_false, Prod.mk.injEq] at hm
  rcases hm with ⟨rfl, rfl⟩ | ⟨rfl, rfl⟩ | ⟨rfl, rfl⟩ | ⟨rfl, rfl⟩ | ⟨rfl, rfl⟩ | ⟨rfl, rfl⟩ | ⟨rfl, rfl⟩
  · exact fk1_11
  · exact fk1_20
  · exact fk1_16
  · exact fk1_23
  · exact fk1_26
  · exact fk1_29
  · exact fk1_32
theorem ck1_73 : COK RX1 73 (.inl 999999) := mg 379 (by decide +kernel) (by decide +kernel)
theorem COK1 : ∀ i v, CX1 i = some v → COK RX1 i v := by
  intro i q h
  have hm : (i, q) ∈ CL1 := lk_mem h
  simp only [CL1, List.mem_cons, List.not_mem_nil, or_false, Prod.mk.injEq] at hm
  rcases hm with ⟨rfl, rfl⟩
  · exact ck1_73
theorem fk2_55 : FOK RX2 55 (1, 0, 2, 1) := fok1 (by decide) (mg 33 (by decide +kernel) (by decide +kernel)) rfl (fun h => absurd rfl h)
theorem fk2_9 : FOK RX2 9 (2, 0, 2, 1) := fok2 (by decide) (mg 71 (by decide +kernel) (by decide +kernel)) rfl (fun h => absurd rfl h)
theorem fk2_15 : FOK RX2 15 (2, 1, 2, 2) := fok2 (by decide) (mg 72 (by decide +kernel) (by decide +kernel)) rfl (fun h => absurd rfl h)
theorem fk2_18 : FOK RX2 18 (2, 2, 2, 3) := fok2 (by decide) (mg 73 (by decide +kernel) (by decide +kernel)) rfl (fun h => absurd rfl h)
theorem fk2_21 : FOK RX2 21 (2, 3, 0, 0) := fok2 (by decide) (mg 74 (by decide +kernel) (by decide +kernel)) rfl (fun _ => ⟨by decide +kernel, by decide +kernel, by decide⟩)
theorem FOK2 : ∀ i q, FX2 i = some q → FOK RX2 i q := by
  intro i q h
  have hm : (i, q) ∈ FL2 := lk_mem h
  simp only [FL2, List.mem_cons, List.not_mem_nil, or_false, Prod.mk.injEq] at hm
  rcases hm with ⟨rfl, rfl⟩ | ⟨rfl, rfl⟩ | ⟨rfl, rfl⟩ | ⟨rfl, rfl⟩ | ⟨rfl, rfl⟩
  · exact fk2_55
  · exact fk2_9
  · exact fk2_15
  · exact fk2_18
  · exact fk2_21
theorem COK2 : ∀ i v, CX2 i = some v → COK RX2 i v := by
  intro i q h
  have hm : (i, q) ∈ CL2 := lk_mem h
  simp [CL2] at hm
theorem fk3_9 : FOK RX3 9 (3, 0, 2, 1) := fok3 (by decide) (mg 149 (by decide +kernel) (by decide +kernel)) rfl (fun h => absurd rfl h)
theorem fk3_15 : FOK RX3 15 (3, 1, 0, 0) := fok3 (by decide) (mg 151 (by decide +kernel) (by decide +kernel)) rfl (fun _ => ⟨by decide +kernel, by decide +kernel, by decide⟩)
theorem fk3_19 : FOK RX3 19 (3, 2, 0, 0) := fok3 (by decide) (mg 153 (by decide +kernel) (by decide +kernel)) rfl (fun _ => ⟨by decide +kernel, by decide +kernel, by decide⟩)
theorem FOK3 : ∀ i q, FX3 i = some q → FOK RX3 i q := by
  intro i q h
  have hm : (i, q) ∈ FL3 := lk_mem h
  simp only [FL3, List.mem_cons, List.not_mem_nil, or_false, Prod.mk.injEq] at hm
  rcases hm with ⟨rfl, rfl⟩ | ⟨rfl, rfl⟩ | ⟨rfl, rfl⟩
  · exact fk3_9
  · exact fk3_15
  · exact fk3_19
theorem COK3 : ∀ i v, CX3 i = some v → COK RX3 i v := by
  intro i q h
  have hm : (i, q) ∈ CL3 := lk_mem h
  simp [CL3] at hm
theorem fk4_79 : FOK RX4 79 (1, 0, 2, 1) := fok1 (by decide) (mg 32 (by decide +kernel) (by decide +kernel)) rfl (fun h => absurd rfl h)
theorem fk4_43 : FOK RX4 43 (1, 1, 0, 0) := fok1 (by decide) (mg 36 (by decide +kernel) (by decide +kernel)) rfl (fun _ => ⟨by decide +kernel, by decide +kernel, by decide⟩)
theorem fk4_40 : FOK RX4 40 (1, 2, 0, 0) := fok1 (by decide) (mg 39 (by decide +kernel) (by decide +kernel)) rfl (fun _ => ⟨by decide +kernel, by decide +kernel, by decide⟩)
theorem fk4_9 : FOK RX4 9 (4, 0, 2, 1) := fok4 (by decide) (mg 91 (by decide +kernel) (by decide +kernel)) rfl (fun h => absurd rfl h)
theorem fk4_50 : FOK RX4 50 (4, 1, 0, 0) := fok4 (by decide) (mg 94 (by decide +kernel) (by decide +kernel)) rfl (fun _ => ⟨by decide +kernel, by decide +kernel, by decide⟩)
theorem fk4_20 : FOK RX4 20 (4, 2, 0, 0) := fok4 (by decide) (mg 95 (by decide +kernel) (by decide +kernel)) rfl (fun _ => ⟨by decide +kernel, by decide +kernel, by decide⟩)
theorem fk4_119 : FOK RX4 119 (4, 3, 0, 0) := fok4 (by decide) (mg 98 (by decide +kernel) (by decide +kernel)) rfl (fun _ => ⟨by decide +kernel, by decide +kernel, by decide⟩)
theorem fk4_24 : FOK RX4 24 (4, 4, 0, 0) := fok4 (by decide) (mg 99 (by decide +kernel) (by decide +kernel)) rfl (fun _ => ⟨by decide +kernel, by decide +kernel, by decide⟩)
theorem fk4_30 : FOK RX4 30 (4, 5, 0, 0) := fok4 (by decide) (mg 100 (by decide +kernel) (by decide +kernel)) rfl (fun _ => ⟨by decide +kernel, by decide +kernel, by decide⟩)
theorem fk4_61 : FOK RX4 61 (4, 6, 0, 0) := fok4 (by decide) (mg 101 (by decide +kernel) (by decide +kernel)) rfl (fun _ => ⟨by decide +kernel, by decide +kernel, by decide⟩)
theorem FOK4 : ∀ i q, FX4 i = some q → FOK RX4 i q := by
  intro i q h
  have hm : (i, q) ∈ FL4 := lk_mem h
  simp only [FL4, List.mem_cons, List.not_mem_nil, or_false, Prod.mk.injEq] at hm
  rcases hm with ⟨rfl, rfl⟩ | ⟨rfl, rfl⟩ | ⟨rfl, rfl⟩ | ⟨rfl, rfl⟩ | ⟨rfl, rfl⟩ | ⟨rfl, rfl⟩ | ⟨rfl, rfl⟩ | ⟨rfl, rfl⟩ | ⟨rfl, rfl⟩ | ⟨rfl, rfl⟩
  · exact fk4_79
  · exact fk4_43
  · exact fk4_40
  · exact fk4_9
  · exact fk4_50
  · exact fk4_20
  · exact fk4_119
  · exact fk4_24
  · exact fk4_30
  · exact fk4_61
theorem ck4_83 : COK RX4 83 (.inr (.inr 100)) := Or.inl ⟨rfl, Or.inr (⟨rfl, rfl⟩)⟩
theorem ck4_87 : COK RX4 87 (.inr (.inr 101)) := Or.inr (Or.inl ⟨rfl, Or.inr (⟨rfl, rfl⟩)⟩)
theorem ck4_90 : COK RX4 90 (.inr (.inr 110)) := Or.inr (Or.inr ⟨0, by decide, rfl, rfl, rfl⟩)
theorem ck4_96 : COK RX4 96 (.inr (.inr 111)) := Or.inr (Or.inr ⟨1, by decide, rfl, rfl, rfl⟩)
theorem ck4_98 : COK RX4 98 (.inr (.inr 112)) := Or.inr (Or.inr ⟨2, by decide, rfl, rfl, rfl⟩)
theorem ck4_100 : COK RX4 100 (.inr (.inr 113)) := Or.inr (Or.inr ⟨3, by decide, rfl, rfl, rfl⟩)
theorem ck4_102 : COK RX4 102 (.inr (.inr 114)) := Or.inr (Or.inr ⟨4, by decide, rfl, rfl, rfl⟩)
theorem COK4 : ∀ i v, CX4 i = some v → COK RX4 i v := by
  intro i q h
  have hm : (i, q) ∈ CL4 := lk_mem h
  simp only [CL4, List.mem_cons, List.not_mem_nil, or_false, Prod.mk.injEq] at hm
  rcases hm with ⟨rfl, rfl⟩ | ⟨rfl, rfl⟩ | ⟨rfl, rfl⟩ | ⟨rfl, rfl⟩ | ⟨rfl, rfl⟩ | ⟨rfl, rfl⟩ | ⟨rfl, rfl⟩
  · exact ck4_83
  · exact ck4_87
  · exact ck4_90
  · exact ck4_96
  · exact ck4_98
  · exact ck4_100
  · exact ck4_102
theorem fk5_115 : FOK RX5 115 (1, 0, 2, 1) := fok1 (by decide) (mg 34 (by decide +kernel) (by decide +kernel)) rfl (fun h => absurd rfl h)
theorem fk5_85 : FOK RX5 85 (1, 1, 0, 0) := fok1 (by decide) (mg 37 (by decide +kernel) (by decide +kernel)) rfl (fun _ => ⟨by decide +kernel, by decide +kernel, by decide⟩)
theorem fk5_88 : FOK RX5 88 (1, 2, 0, 0) := fok1 (by decide) (mg 40 (by decide +kernel) (by decide +kernel)) rfl (fun _ => ⟨by decide +kernel, by decide +kernel, by decide⟩)
theorem fk5_91 : FOK RX5 91 (1, 3, 0, 0) := fok1 (by decide) (mg 42 (by decide +kernel) (by decide +kernel)) rfl (fun _ => ⟨by decide +kernel, by decide +kernel, by decide⟩)
theorem fk5_94 : FOK RX5 94 (1, 4, 0, 0) := fok1 (by decide) (mg 44 (by decide +kernel) (by decide +kernel)) rfl (fun _ => ⟨by decide +kernel, by decide +kernel, by decide⟩)
theorem fk5_97 : FOK RX5 97 (1, 5, 0, 0) := fok1 (by decide) (mg 46 (by decide +kernel) (by decide +kernel)) rfl (fun _ => ⟨by decide +kernel, by decide +kernel, by decide⟩)
theorem fk5_100 : FOK RX5 100 (1, 6, 0, 0) := fok1 (by decide) (mg 48 (by decide +kernel) (by decide +kernel)) rfl (fun _ => ⟨by decide +kernel, by decide +kernel, by decide⟩)
theorem fk5_78 : FOK RX5 78 (2, 3, 0, 0) := fok2 (by decide) (mg 75 (by decide +kernel) (by decide +kernel)) rfl (fun _ => ⟨by decide +kernel, by decide +kernel, by decide⟩)
theorem fk5_60 : FOK RX5 60 (4, 0, 2, 1) := fok4 (by decide) (mg 92 (by decide +kernel) (by decide +kernel)) rfl (fun h => absurd rfl h)
theorem fk5_56 : FOK RX5 56 (4, 1, 0, 0) := fok4 (by decide) (mg 93 (by decide +kernel) (by decide +kernel)) rfl (fun _ => ⟨by decide +kernel, by decide +kernel, by decide⟩)
theorem fk5_68 : FOK RX5 68 (4, 2, 0, 0) := fok4 (by decide) (mg 96 (by decide +kernel) (by decide +kernel)) rfl (fun _ => ⟨by decide +kernel, by decide +kernel, by decide⟩)
theorem fk5_71 : FOK RX5 71 (4, 3, 0, 0) := fok4 (by decide) (mg 97 (by decide +kernel) (by decide +kernel)) rfl (fun _ => ⟨by decide +kernel, by decide +kernel, by decide⟩)
theorem fk5_190 : FOK RX5 190 (0, 0, 2, 1) := fok0 (by decide) (mg 133 (by decide +kernel) (by decide +kernel)) rfl (fun h => absurd rfl h)
theorem fk5_191 : FOK RX5 191 (0, 1, 2, 8) := fok0 (by decide) (mg 135 (by decide +kernel) (by decide +kernel)) rfl (fun h => absurd rfl h)
theorem fk5_81 : FOK RX5 81 (0, 2, 3, 0) := fok0 (by decide) (mg 136 (by decide +kernel) (by decide +kernel)) rfl (fun _ => ⟨by decide +kernel, by decide +kernel, by decide⟩)
theorem fk5_207 : FOK RX5 207 (3, 0, 2, 1) := fok3 (by decide) (mg 150 (by decide +kernel) (by decide +kernel)) rfl (fun h => absurd rfl h)
theorem fk5_198 : FOK RX5 198 (3, 1, 0, 0) := fok3 (by decide) (mg 152 (by decide +kernel) (by decide +kernel)) rfl (fun _ => ⟨by decide +kernel, by decide +kernel, by decide⟩)
theorem fk5_219 : FOK RX5 219 (3, 2, 0, 0) := fok3 (by decide) (mg 154 (by decide +kernel) (by decide +kernel)) rfl (fun _ => ⟨by decide +kernel, by decide +kernel, by decide⟩)
theorem fk5_10 : FOK RX5 10 (5, 0, 2, 1) := fok5 (by decide) (mg 162 (by decide +kernel) (by decide +kernel)) rfl (fun h => absurd rfl h)
theorem fk5_16 : FOK RX5 16 (5, 1, 2, 8) := fok5 (by decide) (mg 163 (by decide +kernel) (by decide +kernel)) rfl (fun h => absurd rfl h)
theorem fk5_22 : FOK RX5 22 (5, 2, 2, 15) := fok5 (by decide) (mg 164 (by decide +kernel) (by decide +kernel)) rfl (fun h => absurd rfl h)
theorem fk5_29 : FOK RX5 29 (5, 3, 2, 19) := fok5 (by decide) (mg 165 (by decide +kernel) (by decide +kernel)) rfl (fun h => absurd rfl h)
theorem fk5_35 : FOK RX5 35 (5, 4, 2, 21) := fok5 (by decide) (mg 166 (by decide +kernel) (by decide +kernel)) rfl (fun h => absurd rfl h)
theorem fk5_41 : FOK RX5 41 (5, 5, 2, 46) := fok5 (by decide) (mg 167 (by decide +kernel) (by decide +kernel)) rfl (fun h => absurd rfl h)
theorem fk5_47 : FOK RX5 47 (5, 6, 2, 55) := fok5 (by decide) (mg 168 (by decide +kernel) (by decide +kernel)) rfl (fun h => absurd rfl h)
theorem fk5_213 : FOK RX5 213 (5, 7, 0, 0) := fok5 (by decide) (mg 169 (by decide +kernel) (by decide +kernel)) rfl (fun _ => ⟨by decide +kernel, by decide +kernel, by decide⟩)
theorem FOK5 : ∀ i q, FX5 i = some q → FOK RX5 i q := by
  intro i q h
  have hm : (i, q) ∈ FL5 := lk_mem h
  simp only [FL5, List.mem_cons, List.not_mem_nil, or_false, Prod.mk.injEq] at hm
  rcases hm with ⟨rfl, rfl⟩ | ⟨rfl, rfl⟩ | ⟨rfl, rfl⟩ | ⟨rfl, rfl⟩ | ⟨rfl, rfl⟩ | ⟨rfl, rfl⟩ | ⟨rfl, rfl⟩ | ⟨rfl, rfl⟩ | ⟨rfl, rfl⟩ | ⟨rfl, rfl⟩ | ⟨rfl, rfl⟩ | ⟨rfl, rfl⟩ | ⟨rfl, rfl⟩ | ⟨rfl, rfl⟩ | ⟨rfl, rfl⟩ | ⟨rfl, rfl⟩ | ⟨rfl, rfl⟩ | ⟨rfl, rfl⟩ | ⟨rfl, rfl⟩ | ⟨rfl, rfl⟩ | ⟨rfl, rfl⟩ | ⟨rfl, rfl⟩ | ⟨rfl, rfl⟩ | ⟨rfl, rfl⟩ | ⟨rfl, rfl⟩ | ⟨rfl, rfl⟩
  · exact fk5_115
  · exact fk5_85
  · exact fk5_88
  · exact fk5_91
  · exact fk5_94
  · exact fk5_97
  · exact fk5_100
  · exact fk5_78
  · exact fk5_60
  · exact fk5_56
  · exact fk5_68
  · exact fk5_71
  · exact fk5_190
  · exact fk5_191
  · exact fk5_81
  · exact fk5_207
  · exact fk5_198
  · exact fk5_219
  · exact fk5_10
  · exact fk5_16
  · exact fk5_22
  · exact fk5_29
  · exact fk5_35
  · exact fk5_41
  · exact fk5_47
  · exact fk5_213
theorem ck5_118 : COK RX5 118 (.inr (.inr 100)) := Or.inl ⟨rfl, Or.inl (mg 356 (by decide +kernel) (by decide +kernel))⟩
theorem ck5_122 : COK RX5 122 (.inr (.inr 101)) := Or.inr (Or.inl ⟨rfl, Or.inl (mg 357 (by decide +kernel) (by decide +kernel))⟩)
theorem ck5_160 : COK RX5 160 (.inr (.inl (-1))) := mg 454 (by decide +kernel) (by decide +kernel)
theorem ck5_225 : COK RX5 225 (.inr (.inl 10)) := mg 468 (by decide +kernel) (by decide +kernel)
theorem ck5_189 : COK RX5 189 (.inl 1103515245) := mg 541 (by decide +kernel) (by decide +kernel)
theorem COK5 : ∀ i v, CX5 i = some v → COK RX5 i v := by
  intro i q h
  have hm : (i, q) ∈ CL5 := lk_mem h
  simp only [CL5, List.mem_cons, List.not_mem_nil, or_false, Prod.mk.injEq] at hm
  rcases hm with ⟨rfl, rfl⟩ | ⟨rfl, rfl⟩ | ⟨rfl, rfl⟩ | ⟨rfl, rfl⟩ | ⟨rfl, rfl⟩
  · exact ck5_118
  · exact ck5_122
  · exact ck5_160
  · exact ck5_225
  · exact ck5_189
theorem fk6_7 : FOK RX6 7 (6, 0, 2, 1) := fok6 (by decide) (mg 611 (by decide +kernel) (by decide +kernel)) rfl (fun h => absurd rfl h)
theorem fk6_13 : FOK RX6 13 (6, 1, 2, 2) := fok6 (by decide) (mg 612 (by decide +kernel) (by decide +kernel)) rfl (fun h => absurd rfl h)
theorem fk6_16 : FOK RX6 16 (6, 2, 2, 3) := fok6 (by decide) (mg 613 (by decide +kernel) (by decide +kernel)) rfl (fun h => absurd rfl h)
theorem fk6_20 : FOK RX6 20 (6, 3, 2, 4) := fok6 (by decide) (mg 614 (by decide +kernel) (by decide +kernel)) rfl (fun h => absurd rfl h)
theorem fk6_53 : FOK RX6 53 (6, 4, 3, 0) := fok6 (by decide) (mg 615 (by decide +kernel) (by decide +kernel)) rfl (fun _ => ⟨by decide +kernel, by decide +kernel, by decide⟩)
theorem fk6_23 : FOK RX6 23 (6, 5, 2, 5) := fok6 (by decide) (mg 616 (by decide +kernel) (by decide +kernel)) rfl (fun h => absurd rfl h)
theorem fk6_63 : FOK RX6 63 (6, 6, 0, 0) := fok6 (by decide) (mg 617 (by decide +kernel) (by decide +kernel)) rfl (fun _ => ⟨by decide +kernel, by decide +kernel, by decide⟩)
theorem fk6_76 : FOK RX6 76 (6, 7, 0, 0) := fok6 (by decide) (mg 618 (by decide +kernel) (by decide +kernel)) rfl (fun _ => ⟨by decide +kernel, by decide +kernel, by decide⟩)
theorem fk6_70 : FOK RX6 70 (6, 8, 0, 0) := fok6 (by decide) (mg 619 (by decide +kernel) (by decide +kernel)) rfl (fun _ => ⟨by decide +kernel, by decide +kernel, by decide⟩)
theorem fk6_87 : FOK RX6 87 (6, 9, 0, 0) := fok6 (by decide) (mg 620 (by decide +kernel) (by decide +kernel)) rfl (fun _ => ⟨by decide +kernel, by decide +kernel, by decide⟩)
theorem fk6_98 : FOK RX6 98 (6, 10, 0, 0) := fok6 (by decide) (mg 621 (by decide +kernel) (by decide +kernel)) rfl (fun _ => ⟨by decide +kernel, by decide +kernel, by decide⟩)
theorem fk6_67 : FOK RX6 67 (6, 11, 0, 0) := fok6 (by decide) (mg 622 (by decide +kernel) (by decide +kernel)) rfl (fun _ => ⟨by decide +kernel, by decide +kernel, by decide⟩)
theorem fk6_73 : FOK RX6 73 (6, 12, 0, 0) := fok6 (by decide) (mg 623 (by decide +kernel) (by decide +kernel)) rfl (fun _ => ⟨by decide +kernel, by decide +kernel, by decide⟩)
theorem fk6_129 : FOK RX6 129 (6, 13, 0, 0) := fok6 (by decide) (mg 624 (by decide +kernel) (by decide +kernel)) rfl (fun _ => ⟨by decide +kernel, by decide +kernel, by decide⟩)
theorem fk6_132 : FOK RX6 132 (6, 14, 0, 0) := fok6 (by decide) (mg 625 (by decide +kernel) (by decide +kernel)) rfl (fun _ => ⟨by decide +kernel, by decide +kernel, by decide⟩)
theorem fk6_135 : FOK RX6 135 (6, 15, 0, 0) := fok6 (by decide) (mg 626 (by decide +kernel) (by decide +kernel)) rfl (fun _ => ⟨by decide +kernel, by decide +kernel, by decide⟩)
theorem fk6_138 : FOK RX6 138 (6, 16, 0, 0) := fok6 (by decide) (mg 627 (by decide +kernel) (by decide +kernel)) rfl (fun _ => ⟨by decide +kernel, by decide +kernel, by decide⟩)
theorem fk6_26 : FOK RX6 26 (6, 17, 2, 6) := fok6 (by decide) (mg 628 (by decide +kernel) (by decide +kernel)) rfl (fun h => absurd rfl h)
theorem fk6_212 : FOK RX6 212 (6, 18, 0, 0) := fok6 (by decide) (mg 629 (by decide +kernel) (by decide +kernel)) rfl (fun _ => ⟨by decide +kernel, by decide +kernel, by decide⟩)
theorem fk6_215 : FOK RX6 215 (6, 19, 0, 0) := fok6 (by decide) (mg 630 (by decide +kernel) (by decide +kernel)) rfl (fun _ => ⟨by decide +kernel, by decide +kernel, by decide⟩)
theorem fk6_238 : FOK RX6 238 (6, 20, 1, 0) := fok6 (by decide) (mg 631 (by decide +kernel) (by decide +kernel)) rfl (fun _ => ⟨by decide +kernel, by decide +kernel, by decide⟩)
theorem fk6_242 : FOK RX6 242 (6, 21, 1, 0) := fok6 (by decide) (mg 632 (by decide +kernel) (by decide +kernel)) rfl (fun _ => ⟨by decide +kernel, by decide +kernel, by decide⟩)
theorem fk6_245 : FOK RX6 245 (6, 22, 1, 0) := fok6 (by decide) (mg 633 (by decide +kernel) (by decide +kernel)) rfl (fun _ => ⟨by decide +kernel, by decide +kernel, by decide⟩)
theorem fk6_29 : FOK RX6 29 (6, 23, 2, 7) := fok6 (by decide) (mg 634 (by decide +kernel) (by decide +kernel)) rfl (fun h => absurd rfl h)
theorem fk6_32 : FOK RX6 32 (6, 24, 2, 8) := fok6 (by decide) (mg 635 (by decide +kernel) (by decide +kernel)) rfl (fun h => absurd rfl h)
theorem fk6_35 : FOK RX6 35 (6, 25, 2, 9) := fok6 (by decide) (mg 636 (by decide +kernel) (by decide +kernel)) rfl (fun h => absurd rfl h)
theorem fk6_38 : FOK RX6 38 (6, 26, 2, 10) := fok6 (by decide) (mg 637 (by decide +kernel) (by decide +kernel)) rfl (fun h => absurd rfl h)
theorem fk6_41 : FOK RX6 41 (6, 27, 2, 11) := fok6 (by decide) (mg 638 (by decide +kernel) (by decide +kernel)) rfl (fun h => absurd rfl h)
theorem fk6_283 : FOK RX6 283 (6, 28, 0, 0) := fok6 (by decide) (mg 639 (by decide +kernel) (by decide +kernel)) rfl (fun _ => ⟨by decide +kernel, by decide +kernel, by decide⟩)
theorem fk6_44 : FOK RX6 44 (6, 29, 2, 12) := fok6 (by decide) (mg 640 (by decide +kernel) (by decide +kernel)) rfl (fun h => absurd rfl h)
theorem FOK6 : ∀ i q, FX6 i = some q → FOK RX6 i q := by
  intro i q h
  have hm : (i, q) ∈ FL6 := lk_mem h
  simp only [FL6, List.mem_cons, List.not_mem_nil, or_false, Prod.mk.injEq] at hm
  rcases hm with ⟨rfl, rfl⟩ | ⟨rfl, rfl⟩ | ⟨rfl, rfl⟩ | ⟨rfl, rfl⟩ | ⟨rfl, rfl⟩ | ⟨rfl, rfl⟩ | ⟨rfl, rfl⟩ | ⟨rfl, rfl⟩ | ⟨rfl, rfl⟩ | ⟨rfl, rfl⟩ | ⟨rfl, rfl⟩ | ⟨rfl, rfl⟩ | ⟨rfl, rfl⟩ | ⟨rfl, rfl⟩ | ⟨rfl, rfl⟩ | ⟨rfl, rfl⟩ | ⟨rfl, rfl⟩ | ⟨rfl, rfl⟩ | ⟨rfl, rfl⟩ | ⟨rfl, rfl⟩ | ⟨rfl, rfl⟩ | ⟨rfl, rfl⟩ | ⟨rfl, rfl⟩ | ⟨rfl, rfl⟩ | ⟨rfl, rfl⟩ | ⟨rfl, rfl⟩ | ⟨rfl, rfl⟩ | ⟨rfl, rfl⟩ | ⟨rfl, rfl⟩ | ⟨rfl, rfl⟩
  · exact fk6_7
  · exact fk6_13
  · exact fk6_16
  · exact fk6_20
  · exact fk6_53
  · exact fk6_23
  · exact fk6_63
  · exact fk6_76
  · exact fk6_70
  · exact fk6_87
  · exact fk6_98
  · exact fk6_67
  · exact fk6_73
  · exact fk6_129
  · exact fk6_132
  · exact fk6_135
  · exact fk6_138
  · exact fk6_26
  · exact fk6_212
  · exact fk6_215
  · exact fk6_238
  · exact fk6_242
  · exact fk6_245
  · exact fk6_29
  · exact fk6_32
  · exact fk6_35
  · exact fk6_38
  · exact fk6_41
  · exact fk6_283
  · exact fk6_44
theorem ck6_57 : COK RX6 57 (.inr (.inl 127)) := mg 707 (by decide +kernel) (by decide +kernel)
theorem ck6_90 : COK RX6 90 (.inr (.inl 97)) := mg 727 (by decide +kernel) (by decide +kernel)
theorem ck6_92 : COK RX6 92 (.inr (.inl 122)) := mg 728 (by decide +kernel) (by decide +kernel)
theorem ck6_94 : COK RX6 94 (.inr (.inl 48)) := mg 729 (by decide +kernel) (by decide +kernel)
theorem ck6_96 : COK RX6 96 (.inr (.inl 57)) := mg 730 (by decide +kernel) (by decide +kernel)
theorem ck6_183 : COK RX6 183 (.inr (.inl 6)) := mg 800 (by decide +kernel) (by decide +kernel)
theorem ck6_185 : COK RX6 185 (.inr (.inl 4)) := mg 805 (by decide +kernel) (by decide +kernel)
theorem ck6_190 : COK RX6 190 (.inr (.inl 99)) := mg 818 (by decide +kernel) (by decide +kernel)
theorem ck6_141 : COK RX6 141 (.inl 999999) := mg 831 (by decide +kernel) (by decide +kernel)
theorem ck6_198 : COK RX6 198 (.inr (.inl 100)) := mg 848 (by decide +kernel) (by decide +kernel)
theorem ck6_203 : COK RX6 203 (.inr (.inl 200)) := mg 867 (by decide +kernel) (by decide +kernel)
theorem ck6_208 : COK RX6 208 (.inr (.inl 3)) := mg 868 (by decide +kernel) (by decide +kernel)
theorem ck6_210 : COK RX6 210 (.inr (.inl 2)) := mg 873 (by decide +kernel) (by decide +kernel)
theorem ck6_230 : COK RX6 230 (.inl 1000000000) := mg 901 (by decide +kernel) (by decide +kernel)
theorem ck6_248 : COK RX6 248 (.inr (.inl 10)) := mg 922 (by decide +kernel) (by decide +kernel)
theorem ck6_250 : COK RX6 250 (.inr (.inl 8)) := mg 923 (by decide +kernel) (by decide +kernel)
theorem ck6_252 : COK RX6 252 (.inr (.inl (-1))) := mg 924 (by decide +kernel) (by decide +kernel)
theorem ck6_262 : COK RX6 262 (.inr (.inl 40)) := mg 943 (by decide +kernel) (by decide +kernel)
theorem ck6_271 : COK RX6 271 (.inl 1103515245) := mg 972 (by decide +kernel) (by decide +kernel)
theorem ck6_278 : COK RX6 278 (.inr (.inl 20)) := mg 1000 (by decide +kernel) (by decide +kernel)
theorem COK6 : ∀ i v, CX6 i = some v → COK RX6 i v := by
  intro i q h
  have hm : (i, q) ∈ CL6 := lk_mem h
  simp only [CL6, List.mem_cons, List.not_mem_nil, or_false, Prod.mk.injEq] at hm
  rcases hm with ⟨rfl, rfl⟩ | ⟨rfl, rfl⟩ | ⟨rfl, rfl⟩ | ⟨rfl, rfl⟩ | ⟨rfl, rfl⟩ | ⟨rfl, rfl⟩ | ⟨rfl, rfl⟩ | ⟨rfl, rfl⟩ | ⟨rfl, rfl⟩ | ⟨rfl, rfl⟩ | ⟨rfl, rfl⟩ | ⟨rfl, rfl⟩ | ⟨rfl, rfl⟩ | ⟨rfl, rfl⟩ | ⟨rfl, rfl⟩ | ⟨rfl, rfl⟩ | ⟨rfl, rfl⟩ | ⟨rfl, rfl⟩ | ⟨rfl, rfl⟩ | ⟨rfl, rfl⟩
  · exact ck6_57
  · exact ck6_90
  · exact ck6_92
  · exact ck6_94
  · exact ck6_96
  · exact ck6_183
  · exact ck6_185
  · exact ck6_190
  · exact ck6_141
  · exact ck6_198
  · exact ck6_203
  · exact ck6_208
  · exact ck6_210
  · exact ck6_230
  · exact ck6_248
  · exact ck6_250
  · exact ck6_252
  · exact ck6_262
  · exact ck6_271
  · exact ck6_278
