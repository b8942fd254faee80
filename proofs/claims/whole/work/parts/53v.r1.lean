/-! both, side by side: the calls that change nothing -/
theorem cl_runs {μ : Mem} (h : REL μ) (n w : Int) (i_n : InR n) (i_w : InR w) (K : List AV → Mem → Prop) (hK : ∀ r1 ν, (∀ K2 : List AV → Mem → Prop, (∀ ρ, REL ρ → K2 [.inl r1] ρ) → T6_runs [.inr (.inr 66), .inl n, .inl w] ν K2) → K [.inl r1] ν) : T5_runs [.inr (.inr 0), .inl n, .inl w] μ K := by
  simp only [T5_runs, true_and]
  refine ⟨i_n, i_w, h.1.1.2.2.2, rI μ 67, h.1.1.1, h.1.2.1.1, h.1.2.1.2.1, fun ν hν => hK _ ν (fun K2 hK2 => ?_)⟩
  simp only [T6_runs, true_and]
  have h2 := h.fq hν
  refine ⟨i_n, i_w, h2.1.mok, fun ρ hρ => ?_⟩
  rw [hν.e67]
  exact hK2 ρ (h2.mf hρ)
theorem cl_ahead {μ : Mem} (h : REL μ) (i n w : Int) (i_i : InR i) (i_n : InR n) (i_w : InR w) (K : List AV → Mem → Prop) (hK : ∀ r1 ν, (∀ K2 : List AV → Mem → Prop, (∀ ρ, REL ρ → K2 [.inl r1] ρ) → T6_ahead [.inr (.inr 66), .inl i, .inl n, .inl w] ν K2) → K [.inl r1] ν) : T5_ahead [.inr (.inr 0), .inl i, .inl n, .inl w] μ K := by
  simp only [T5_ahead, true_and]
  refine ⟨i_i, i_n, i_w, h.1.1.2.2.2, rI μ 67, h.1.1.1, h.1.2.1.1, h.1.2.1.2.1, fun ν hν => hK _ ν (fun K2 hK2 => ?_)⟩
  simp only [T6_ahead, true_and]
  have h2 := h.fq hν
  refine ⟨i_i, i_n, i_w, h2.1.mok, fun ρ hρ => ?_⟩
  rw [hν.e67]
  exact hK2 ρ (h2.mf hρ)
theorem cl_when {μ : Mem} (h : REL μ) (i : Int) (i_i : InR i) (K : List AV → Mem → Prop) (hK : ∀ r1 ν, (∀ K2 : List AV → Mem → Prop, (∀ ρ, REL ρ → K2 [.inl r1] ρ) → T6_when [.inr (.inr 66), .inl i] ν K2) → K [.inl r1] ν) : T5_when [.inr (.inr 0), .inl i] μ K := by
  simp only [T5_when, true_and]
  refine ⟨i_i, h.1.1.2.2.2, rI μ 67, h.1.1.1, h.1.2.1.1, h.1.2.1.2.1, fun ν hν => hK _ ν (fun K2 hK2 => ?_)⟩
  simp only [T6_when, true_and]
  have h2 := h.fq hν
  refine ⟨i_i, h2.1.mok, fun ρ hρ => ?_⟩
  rw [hν.e67]
  exact hK2 ρ (h2.mf hρ)
theorem cl_kind {μ : Mem} (h : REL μ) (i n w : Int) (i_i : InR i) (i_n : InR n) (i_w : InR w) (K : List AV → Mem → Prop) (hK : ∀ r1 ν, (∀ K2 : List AV → Mem → Prop, (∀ ρ, REL ρ → K2 [.inl r1] ρ) → T6_kind [.inr (.inr 66), .inl i, .inl n, .inl w] ν K2) → K [.inl r1] ν) : T5_kind [.inr (.inr 0), .inl i, .inl n, .inl w] μ K := by
  simp only [T5_kind, true_and]
  refine ⟨i_i, i_n, i_w, h.1.1.2.2.2, rI μ 67, h.1.1.1, h.1.2.1.1, h.1.2.1.2.1, fun ν hν => hK _ ν (fun K2 hK2 => ?_)⟩
  simp only [T6_kind, true_and]
  have h2 := h.fq hν
  refine ⟨i_i, i_n, i_w, h2.1.mok, fun ρ hρ => ?_⟩
  rw [hν.e67]
  exact hK2 ρ (h2.mf hρ)
theorem cl_hold {μ : Mem} (h : REL μ) (i n w : Int) (i_i : InR i) (i_n : InR n) (i_w : InR w) (K : List AV → Mem → Prop) (hK : ∀ r1 ν, (∀ K2 : List AV → Mem → Prop, (∀ ρ, REL ρ → K2 [.inl r1] ρ) → T6_hold [.inr (.inr 66), .inl i, .inl n, .inl w] ν K2) → K [.inl r1] ν) : T5_hold [.inr (.inr 0), .inl i, .inl n, .inl w] μ K := by
  simp only [T5_hold, true_and]
  refine ⟨i_i, i_n, i_w, h.1.1.2.2.2, rI μ 67, h.1.1.1, h.1.2.1.1, h.1.2.1.2.1, fun ν hν => hK _ ν (fun K2 hK2 => ?_)⟩
  simp only [T6_hold, true_and]
  have h2 := h.fq hν
  refine ⟨i_i, i_n, i_w, h2.1.mok, fun ρ hρ => ?_⟩
  rw [hν.e67]
  exact hK2 ρ (h2.mf hρ)
theorem cl_swap {μ : Mem} (h : REL μ) (n w : Int) (i_n : InR n) (i_w : InR w) (K : List AV → Mem → Prop) (hK : ∀ r1 ν, (∀ K2 : List AV → Mem → Prop, (∀ ρ, REL ρ → K2 [.inl r1] ρ) → T6_swap [.inr (.inr 66), .inl n, .inl w] ν K2) → K [.inl r1] ν) : T5_swap [.inr (.inr 0), .inl n, .inl w] μ K := by
  simp only [T5_swap, true_and]
  refine ⟨i_n, i_w, h.1.1.2.2.2, rI μ 67, h.1.1.1, h.1.2.1.1, h.1.2.1.2.1, fun ν hν => hK _ ν (fun K2 hK2 => ?_)⟩
  simp only [T6_swap, true_and]
  have h2 := h.fq hν
  refine ⟨i_n, i_w, h2.1.mok, fun ρ hρ => ?_⟩
  rw [hν.e67]
  exact hK2 ρ (h2.mf hρ)
theorem cl_pass {μ : Mem} (h : REL μ) (n w : Int) (i_n : InR n) (i_w : InR w) (K : List AV → Mem → Prop) (hK : ∀ r1 ν, (∀ K2 : List AV → Mem → Prop, (∀ ρ, REL ρ → K2 [.inl r1] ρ) → T6_pass [.inr (.inr 66), .inl n, .inl w] ν K2) → K [.inl r1] ν) : T5_pass [.inr (.inr 0), .inl n, .inl w] μ K := by
  simp only [T5_pass, true_and]
  refine ⟨i_n, i_w, h.1.1.2.2.2, rI μ 67, h.1.1.1, h.1.2.1.1, h.1.2.1.2.1, fun ν hν => hK _ ν (fun K2 hK2 => ?_)⟩
  simp only [T6_pass, true_and]
  have h2 := h.fq hν
  refine ⟨i_n, i_w, h2.1.mok, fun ρ hρ => ?_⟩
  rw [hν.e67]
  exact hK2 ρ (h2.mf hρ)
theorem cl_begin {μ : Mem} (h : REL μ) (n w : Int) (i_n : InR n) (i_w : InR w) (K : List AV → Mem → Prop) (hK : ∀ r1 ν, (∀ K2 : List AV → Mem → Prop, (∀ ρ, REL ρ → K2 [.inl r1] ρ) → T6_begin [.inr (.inr 66), .inl n, .inl w] ν K2) → K [.inl r1] ν) : T5_begin [.inr (.inr 0), .inl n, .inl w] μ K := by
  simp only [T5_begin, true_and]
  refine ⟨i_n, i_w, h.1.1.2.2.2, rI μ 67, h.1.1.1, h.1.2.1.1, h.1.2.1.2.1, fun ν hν => hK _ ν (fun K2 hK2 => ?_)⟩
  simp only [T6_begin, true_and]
  have h2 := h.fq hν
  refine ⟨i_n, i_w, h2.1.mok, fun ρ hρ => ?_⟩
  rw [hν.e67]
  exact hK2 ρ (h2.mf hρ)
theorem cl_drift {μ : Mem} (h : REL μ) (s n w : Int) (i_s : InR s) (i_n : InR n) (i_w : InR w) (K : List AV → Mem → Prop) (hK : ∀ r1 ν, (∀ K2 : List AV → Mem → Prop, (∀ ρ, REL ρ → K2 [.inl r1] ρ) → T6_drift [.inr (.inr 66), .inl s, .inl n, .inl w] ν K2) → K [.inl r1] ν) : T5_drift [.inr (.inr 0), .inl s, .inl n, .inl w] μ K := by
  simp only [T5_drift, true_and]
  refine ⟨i_s, i_n, i_w, h.1.1.2.2.2, rI μ 67, h.1.1.1, h.1.2.1.1, h.1.2.1.2.1, fun ν hν => hK _ ν (fun K2 hK2 => ?_)⟩
  simp only [T6_drift, true_and]
  have h2 := h.fq hν
  refine ⟨i_s, i_n, i_w, h2.1.mok, fun ρ hρ => ?_⟩
  rw [hν.e67]
  exact hK2 ρ (h2.mf hρ)
theorem cl_kinds {μ : Mem} (h : REL μ) (i : Int) (i_i : InR i) (K : List AV → Mem → Prop) (hK : ∀ r1 ν, (∀ K2 : List AV → Mem → Prop, (∀ ρ, REL ρ → K2 [.inl r1] ρ) → T6_kinds [.inr (.inr 66), .inl i] ν K2) → K [.inl r1] ν) : T5_kinds [.inr (.inr 0), .inl i] μ K := by
  simp only [T5_kinds, true_and]
  refine ⟨i_i, h.1.1.2.2.2, rI μ 67, h.1.1.1, h.1.2.2.1, h.1.2.1.1, h.1.2.2.2, h.1.2.1.2.1, fun ν hν => hK _ ν (fun K2 hK2 => ?_)⟩
  simp only [T6_kinds, true_and]
  have h2 := h.fq hν
  refine ⟨i_i, h2.1.mok, h2.1.2.2.2, fun ρ hρ => ?_⟩
  rw [hν.e67]
  exact hK2 ρ (h2.mf hρ)
theorem cl_gains {μ : Mem} (h : REL μ) (i : Int) (i_i : InR i) (K : List AV → Mem → Prop) (hK : ∀ r1 ν, (∀ K2 : List AV → Mem → Prop, (∀ ρ, REL ρ → K2 [.inl r1] ρ) → T6_gains [.inr (.inr 66), .inl i] ν K2) → K [.inl r1] ν) : T5_gains [.inr (.inr 0), .inl i] μ K := by
  simp only [T5_gains, true_and]
  refine ⟨i_i, h.1.1.2.2.2, rI μ 67, h.1.1.1, h.1.2.2.1, h.1.2.1.1, h.1.2.2.2, h.1.2.1.2.1, fun ν hν => hK _ ν (fun K2 hK2 => ?_)⟩
  simp only [T6_gains, true_and]
  have h2 := h.fq hν
  refine ⟨i_i, h2.1.mok, h2.1.2.2.2, fun ρ hρ => ?_⟩
  rw [hν.e67]
  exact hK2 ρ (h2.mf hρ)
theorem cl_ask {μ : Mem} (h : REL μ) (i w : Int) (i_i : InR i) (i_w : InR w) (K : List AV → Mem → Prop) (hK : ∀ r1 ν, (∀ K2 : List AV → Mem → Prop, (∀ ρ, REL ρ → K2 [.inl r1] ρ) → T6_ask [.inr (.inr 66), .inl i, .inl w] ν K2) → K [.inl r1] ν) : T5_ask [.inr (.inr 0), .inl i, .inl w] μ K := by
  simp only [T5_ask, true_and]
  refine ⟨i_i, i_w, h.1.1.2.2.2, rI μ 67, h.1.1.1, h.1.2.2.1, h.1.2.1.1, h.1.2.2.2, h.1.2.1.2.1, fun ν hν => hK _ ν (fun K2 hK2 => ?_)⟩
  simp only [T6_ask, true_and]
  have h2 := h.fq hν
  refine ⟨i_i, i_w, h2.1.mok, h2.1.2.2.2, fun ρ hρ => ?_⟩
  rw [hν.e67]
  exact hK2 ρ (h2.mf hρ)
theorem cl_luck {μ : Mem} (h : REL μ) (v i n q w : Int) (i_v : InR v) (i_i : InR i) (i_n : InR n) (i_q : InR q) (i_w : InR w) (K : List AV → Mem → Prop) (hK : ∀ r1 ν, (∀ K2 : List AV → Mem → Prop, (∀ ρ, REL ρ → K2 [.inr (.inl r1)] ρ) → T6_luck [.inr (.inr 66), .inl v, .inl i, .inl n, .inl q, .inl w] ν K2) → K [.inr (.inl r1)] ν) : T5_luck [.inr (.inr 0), .inl v, .inl i, .inl n, .inl q, .inl w] μ K := by
  simp only [T5_luck, true_and]
  refine ⟨i_v, i_i, i_n, i_q, i_w, h.1.1.2.2.2, rI μ 67, h.1.1.1, h.1.2.1.1, h.1.2.1.2.1, fun z ν hν => hK _ ν (fun K2 hK2 => ?_), fun z => hK _ μ (fun K2 hK2 => ?_)⟩
  · simp only [T6_luck, true_and]
    have h2 := h.fq hν
    rw [← hν.e67] at z
    refine ⟨i_v, i_i, i_n, i_q, i_w, h2.1.mok, fun _ ρ hρ => ?_, fun y => absurd z y⟩
    rw [hν.e67]
    exact hK2 ρ (h2.mf hρ)
  · simp only [T6_luck, true_and]
    exact ⟨i_v, i_i, i_n, i_q, i_w, h.1.mok, fun y => absurd y z, fun _ => hK2 μ h⟩
theorem cl_mean {μ : Mem} (h : REL μ) (v n w : Int) (i_v : InR v) (i_n : InR n) (i_w : InR w) (K : List AV → Mem → Prop) (hK : ∀ r1 ν, (∀ K2 : List AV → Mem → Prop, (∀ ρ, REL ρ → K2 [.inr (.inl r1)] ρ) → T6_mean [.inr (.inr 66), .inl v, .inl n, .inl w] ν K2) → K [.inr (.inl r1)] ν) : T5_mean [.inr (.inr 0), .inl v, .inl n, .inl w] μ K := by
  simp only [T5_mean, true_and]
  refine ⟨i_v, i_n, i_w, h.1.1.2.2.2, rI μ 67, h.1.1.1, h.1.2.1.1, h.1.2.1.2.1, fun z ν hν => hK _ ν (fun K2 hK2 => ?_), fun z => hK _ μ (fun K2 hK2 => ?_)⟩
  · simp only [T6_mean, true_and]
    have h2 := h.fq hν
    refine ⟨i_v, i_n, i_w, h2.1.mok, fun _ ρ hρ => ?_, fun y => absurd z y⟩
    rw [hν.e67]
    exact hK2 ρ (h2.mf hρ)
  · simp only [T6_mean, true_and]
    exact ⟨i_v, i_n, i_w, h.1.mok, fun y => absurd y z, fun _ => hK2 μ h⟩
theorem cl_fault {μ : Mem} (h : REL μ) (K : List AV → Mem → Prop) (hK : ∀ r1 ν, (∀ K2 : List AV → Mem → Prop, (∀ ρ, REL ρ → K2 [.inl r1] ρ) → T6_fault [.inr (.inr 66)] ν K2) → K [.inl r1] ν) : T5_fault [.inr (.inr 0)] μ K := by
  simp only [T5_fault, true_and]
  refine hK _ μ (fun K2 hK2 => ?_)
  simp only [T6_fault, true_and]
  rw [h.2.2.1.1] at hK2
  exact hK2 μ h
theorem cl_torn {μ : Mem} (h : REL μ) (K : List AV → Mem → Prop) (hK : ∀ r1 ν, (∀ K2 : List AV → Mem → Prop, (∀ ρ, REL ρ → K2 [.inl r1] ρ) → T6_torn [.inr (.inr 66)] ν K2) → K [.inl r1] ν) : T5_torn [.inr (.inr 0)] μ K := by
  simp only [T5_torn, true_and]
  refine hK _ μ (fun K2 hK2 => ?_)
  simp only [T6_torn, true_and]
  rw [h.2.2.1.2.2.1] at hK2
  exact hK2 μ h
theorem cl_station {μ : Mem} (h : REL μ) (i w : Int) (i_i : InR i) (i_w : InR w) (K : List AV → Mem → Prop) (hK : ∀ r1 ν, (∀ K2 : List AV → Mem → Prop, (∀ ρ, REL ρ → K2 [.inl r1] ρ) → T6_station [.inr (.inr 66), .inl i, .inl w] ν K2) → K [.inl r1] ν) : T5_station [.inr (.inr 0), .inl i, .inl w] μ K := by
  have h35 := h.1.2.1.1.1
  simp only [T5_station, true_and]
  refine ⟨i_i, i_w, rI μ 67, h.1.1.1, h35, fun z => hK _ μ (fun K2 hK2 => ?_), fun z => hK _ μ (fun K2 hK2 => ?_)⟩
  · simp only [T6_station, true_and]
    exact ⟨i_i, i_w, h35, fun _ => hK2 μ h, fun y => absurd z y⟩
  · simp only [T6_station, true_and]
    exact ⟨i_i, i_w, h35, fun y => absurd y z, fun _ => hK2 μ h⟩
theorem cl_rule {μ : Mem} (h : REL μ) (w : Int) (i_w : InR w) (K : List AV → Mem → Prop) (hK : ∀ r1 ν, (∀ K2 : List AV → Mem → Prop, (∀ ρ, REL ρ → K2 [.inl r1] ρ) → T6_rule [.inr (.inr 66), .inl w] ν K2) → K [.inl r1] ν) : T5_rule [.inr (.inr 0), .inl w] μ K := by
  simp only [T5_rule, true_and]
  refine ⟨i_w, rI μ 67, h.1.1.1, h.1.2.1.1, h.1.1.2.1, h.1.1.2.2.1, hK _ μ (fun K2 hK2 => ?_)⟩
  simp only [T6_rule, true_and]
  exact ⟨i_w, h.1.mok, fun ρ hρ => hK2 ρ (h.mf hρ)⟩
theorem cl_count {μ : Mem} (h : REL μ) (w : Int) (i_w : InR w) (K : List AV → Mem → Prop) (hK : ∀ r1 ν, (∀ K2 : List AV → Mem → Prop, (∀ ρ, REL ρ → K2 [.inl r1] ρ) → T6_count [.inr (.inr 66), .inl w] ν K2) → K [.inl r1] ν) : T5_count [.inr (.inr 0), .inl w] μ K := by
  have h35 := h.1.2.1.1.1
  have e22 := (h.2.2.2.1 0 (by omega))
  have e34 := (h.2.2.2.1 1 (by omega))
  have e47 := (h.2.2.2.2 0 (by omega))
  have x22 : rI μ 22 2 = rI μ 69 0 := e22.1
  have x34 : rI μ 34 2 = rI μ 69 1 := e34.1
  have x47 : rI μ 47 2 = szR μ 0 := e47.2.1
  have x15 : rI μ 15 3 = rI μ 67 41 := h.1.2.2.1.1
  have x19 : rI μ 19 1 = rI μ 66 6 := h.2.1.1
  have b75 := e47.2.2.1
  simp only [T5_count, true_and]
  refine ⟨i_w, by rw [x22]; exact e22.2.1, by rw [x34]; exact e34.2.1, rI μ 67, h.1.1.1, h35, hK _ μ (fun K2 hK2 => ?_)⟩
  simp only [T6_count, true_and]
  refine ⟨i_w, e22.2.1, e34.2.1, ⟨by omega, by omega⟩, h35, fun ρ hρ => ?_⟩
  have := hK2 ρ (h.mf hρ)
  rw [x22, x34, x47, x15, x19] at this
  exact this
