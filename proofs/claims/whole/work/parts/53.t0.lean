/-! the text: TOKENS, lines, as numbers -/
def bY (b : Nat → Int) (len p : Nat) : Int := if p < len then b p else -1
def cL (c : Int) : Int := if c < 0 then 0 else if 97 ≤ c ∧ c ≤ 122 then 1 else if 48 ≤ c ∧ c ≤ 57 then 2 else if c = 59 then 3 else 4
theorem cL_in (c : Int) : 0 ≤ cL c ∧ cL c ≤ 4 := by
  unfold cL
  split
  · omega
  · split
    · omega
    · split
      · omega
      · split <;> omega
theorem cL_0 {c : Int} : cL c = 0 ↔ c < 0 := by
  unfold cL
  by_cases z : c < 0
  · rw [if_pos z]; simp [z]
  · rw [if_neg z]
    constructor
    · intro h
      split at h
      · cases h
      · split at h
        · cases h
        · split at h <;> cases h
    · intro h; exact absurd h z
theorem cL_1 {c : Int} : cL c = 1 ↔ 97 ≤ c ∧ c ≤ 122 := by
  unfold cL
  by_cases z : c < 0
  · rw [if_pos z]; constructor
    · intro h; cases h
    · intro h; omega
  · rw [if_neg z]
    by_cases y : 97 ≤ c ∧ c ≤ 122
    · rw [if_pos y]; simp [y]
    · rw [if_neg y]
      constructor
      · intro h
        split at h
        · cases h
        · split at h <;> cases h
      · intro h; exact absurd h y
theorem cL_2 {c : Int} : cL c = 2 ↔ 48 ≤ c ∧ c ≤ 57 := by
  unfold cL
  by_cases z : c < 0
  · rw [if_pos z]; constructor
    · intro h; cases h
    · intro h; omega
  · rw [if_neg z]
    by_cases y : 97 ≤ c ∧ c ≤ 122
    · rw [if_pos y]; constructor
      · intro h; cases h
      · intro h; omega
    · rw [if_neg y]
      by_cases x : 48 ≤ c ∧ c ≤ 57
      · rw [if_pos x]; simp [x]
      · rw [if_neg x]
        constructor
        · intro h
          split at h <;> cases h
        · intro h; exact absurd h x
theorem cL_n {c : Int} (h0 : ¬ c < 0) (h1 : ¬ (97 ≤ c ∧ c ≤ 122)) (h2 : ¬ (48 ≤ c ∧ c ≤ 57)) : cL c = if c = 59 then 3 else 4 := by
  unfold cL
  rw [if_neg h0, if_neg h1, if_neg h2]
section
variable (b : Nat → Int) (len : Nat)
def skF : Nat → Nat → Nat
  | 0, q => q
  | m + 1, q => if bY b len q = 32 then skF m (q + 1) else q
def rnF (s : Int) : Nat → Nat → Nat
  | 0, q => q
  | m + 1, q => if cL (bY b len q) = s then rnF s m (q + 1) else q
def tkF (p : Nat) : Nat := skF b len (len - p) p
def tkS (p : Nat) : Int := cL (bY b len (tkF b len p))
def tkN (p : Nat) : Nat := if tkS b len p = 0 then tkF b len p else if tkS b len p = 1 ∨ tkS b len p = 2 then rnF b len (tkS b len p) (len - (tkF b len p + 1)) (tkF b len p + 1) else tkF b len p + 1
def tkE (p : Nat) : Bool := decide (tkS b len p = 4 ∨ (tkS b len p = 2 ∧ tkF b len p + 2 < tkN b len p))
def tkV (p : Nat) : Int := if tkN b len p = tkF b len p + 1 then b (tkF b len p) - 48 else 10 * (b (tkF b len p) - 48) + b (tkF b len p + 1) - 48
end
section
variable {b : Nat → Int} {len : Nat}
theorem skF_in : ∀ m q : Nat, q + m = len → q ≤ skF b len m q ∧ skF b len m q ≤ len ∧ (skF b len m q < len → bY b len (skF b len m q) ≠ 32)
  | 0, q, h => ⟨by simp [skF], by simp [skF]; omega, fun z => by simp [skF] at z; omega⟩
  | m + 1, q, h => by
    simp only [skF]
    by_cases z : bY b len q = 32
    · rw [if_pos z]
      obtain ⟨h1, h2, h3⟩ := skF_in m (q + 1) (by omega)
      exact ⟨by omega, h2, h3⟩
    · rw [if_neg z]
      exact ⟨by omega, by omega, fun _ => z⟩
theorem rnF_in (s : Int) : ∀ m q : Nat, q + m = len → q ≤ rnF b len s m q ∧ rnF b len s m q ≤ len ∧ ∀ x, q ≤ x → x < rnF b len s m q → cL (bY b len x) = s
  | 0, q, h => ⟨by simp [rnF], by simp [rnF]; omega, fun x h1 h2 => by simp [rnF] at h2; omega⟩
  | m + 1, q, h => by
    simp only [rnF]
    by_cases z : cL (bY b len q) = s
    · rw [if_pos z]
      obtain ⟨h1, h2, h3⟩ := rnF_in s m (q + 1) (by omega)
      refine ⟨by omega, h2, fun x a1 a2 => ?_⟩
      by_cases e : x = q
      · rw [e]; exact z
      · exact h3 x (by omega) a2
    · rw [if_neg z]
      exact ⟨by omega, by omega, fun x h1 h2 => by omega⟩
theorem tkF_in {p : Nat} (h : p ≤ len) : p ≤ tkF b len p ∧ tkF b len p ≤ len := by
  have := skF_in (b := b) (len := len) (len - p) p (by omega)
  exact ⟨this.1, this.2.1⟩
theorem tkS_in (p : Nat) : 0 ≤ tkS b len p ∧ tkS b len p ≤ 4 := cL_in _
theorem tkS_0 (hb : ∀ j, j < 160 → 0 ≤ b j ∧ b j ≤ 127) (hl : len ≤ 160) {p : Nat} (h : p ≤ len) : tkS b len p = 0 ↔ tkF b len p = len := by
  have hf := tkF_in (b := b) h
  unfold tkS
  rw [cL_0]
  unfold bY
  by_cases z : tkF b len p < len
  · rw [if_pos z]
    have := hb (tkF b len p) (by omega)
    constructor
    · intro q; omega
    · intro q; omega
  · rw [if_neg z]
    constructor
    · intro _; omega
    · intro _; omega
theorem tkN_in (hb : ∀ j, j < 160 → 0 ≤ b j ∧ b j ≤ 127) (hl : len ≤ 160) {p : Nat} (h : p ≤ len) : tkF b len p ≤ tkN b len p ∧ tkN b len p ≤ len ∧ (tkS b len p ≠ 0 → tkF b len p < tkN b len p) := by
  have hf := tkF_in (b := b) h
  have h0 := tkS_0 hb hl h
  unfold tkN
  by_cases z : tkS b len p = 0
  · rw [if_pos z]; exact ⟨by omega, by omega, fun y => absurd z y⟩
  · rw [if_neg z]
    have : tkF b len p < len := by
      have : tkF b len p ≠ len := fun y => z (h0.mpr y)
      omega
    by_cases y : tkS b len p = 1 ∨ tkS b len p = 2
    · rw [if_pos y]
      have := rnF_in (b := b) (len := len) (tkS b len p) (len - (tkF b len p + 1)) (tkF b len p + 1) (by omega)
      exact ⟨by omega, by omega, fun _ => by omega⟩
    · rw [if_neg y]; exact ⟨by omega, by omega, fun _ => by omega⟩
/-- a NUMBER's figures -/
theorem tkV_in (hb : ∀ j, j < 160 → 0 ≤ b j ∧ b j ≤ 127) (hl : len ≤ 160) {p : Nat} (h : p ≤ len) (hs : tkS b len p = 2) (he : tkE b len p = false) : (tkN b len p = tkF b len p + 1 ∨ tkN b len p = tkF b len p + 2) ∧ ∀ x, tkF b len p ≤ x → x < tkN b len p → 48 ≤ b x ∧ b x ≤ 57 := by
  have hf := tkF_in (b := b) h
  have hn := tkN_in hb hl h
  have h0 := tkS_0 hb hl h
  have hn0 : tkS b len p ≠ 0 := by omega
  have h3 := hn.2.2 hn0
  unfold tkE at he
  rw [decide_eq_false_iff_not] at he
  refine ⟨by omega, fun x a1 a2 => ?_⟩
  have hx : cL (bY b len x) = 2 := by
    by_cases e : x = tkF b len p
    · rw [e]; exact hs
    · have := rnF_in (b := b) (len := len) (tkS b len p) (len - (tkF b len p + 1)) (tkF b len p + 1) (by omega)
      unfold tkN at a2
      rw [if_neg hn0, if_pos (Or.inr hs)] at a2
      rw [← hs]
      exact this.2.2 x (by omega) a2
  rw [cL_2] at hx
  unfold bY at hx
  rw [if_pos (by omega)] at hx
  exact hx
end
/-- is it that NAME -/
def nmB (b : Nat → Int) (q : Nat) (n : Int) : Nat → Bool
  | 0 => decide (n = 5 ∧ b q = 112 ∧ b (q + 1) = 108 ∧ b (q + 2) = 97 ∧ b (q + 3) = 105 ∧ b (q + 4) = 110)
  | 1 => decide (n = 6 ∧ b q = 103 ∧ b (q + 1) = 114 ∧ b (q + 2) = 101 ∧ b (q + 3) = 101 ∧ b (q + 4) = 100 ∧ b (q + 5) = 121)
  | 2 => decide (n = 4 ∧ b q = 109 ∧ b (q + 1) = 101 ∧ b (q + 2) = 101 ∧ b (q + 3) = 107)
  | 3 => decide (n = 4 ∧ b q = 102 ∧ b (q + 1) = 97 ∧ b (q + 2) = 105 ∧ b (q + 3) = 114)
  | 4 => decide (n = 4 ∧ b q = 119 ∧ b (q + 1) = 111 ∧ b (q + 2) = 114 ∧ b (q + 3) = 100)
  | _ => false
def kNm (b : Nat → Int) (q : Nat) (n s : Int) : Int := if s ≠ 1 then -4 else if nmB b q n 0 = true then 0 else if nmB b q n 1 = true then 1 else if nmB b q n 2 = true then 2 else if nmB b q n 3 = true then 3 else if nmB b q n 4 = true then 4 else -4
section
variable (b : Nat → Int) (len : Nat)
/-- the KIND that a line begins with (4: word; -4: none) -/
def tkK (p : Nat) : Int := kNm b (tkF b len p) ((tkN b len p : Int) - (tkF b len p : Int)) (tkS b len p)
theorem tkK_in (p : Nat) : tkK b len p = -4 ∨ (0 ≤ tkK b len p ∧ tkK b len p ≤ 4) := by
  unfold tkK kNm
  split
  · exact Or.inl rfl
  · split
    · exact Or.inr (by omega)
    · split
      · exact Or.inr (by omega)
      · split
        · exact Or.inr (by omega)
        · split
          · exact Or.inr (by omega)
          · split
            · exact Or.inr (by omega)
            · exact Or.inl rfl
/-- the FAULT of a NUMBER, of a ; -/
def nfC (p : Nat) (lo hi : Int) : Int := if tkE b len p = true then 1 else if tkS b len p ≠ 2 then 2 else if lo ≤ tkV b len p ∧ tkV b len p ≤ hi then 0 else 3
def sfC (p : Nat) : Int := if tkE b len p = true then 1 else if tkS b len p ≠ 3 then 2 else 0
def ckL : List (Int × Int) → Nat → Int × Int
  | [], p => (sfC b len p, (tkF b len p : Int))
  | q :: r, p => if nfC b len p q.1 q.2 ≠ 0 then (nfC b len p q.1 q.2, (tkF b len p : Int)) else ckL r (tkN b len p)
def bds : List (Int × Int) := [(0, 99), (1, 9), (0, 9), (1, 9)]
def n2 (p : Nat) : Nat := tkN b len (tkN b len p)
def stD (D : Nat → Int) (k : Int) (p : Nat) : Nat → Int := upF (upF (upF (upF (upF (upF D (7 * (D 35).toNat) k) (7 * (D 35).toNat + 1) (tkV b len p)) (7 * (D 35).toNat + 2) (tkV b len (tkN b len p))) (7 * (D 35).toNat + 3) (tkV b len (n2 b len p))) (7 * (D 35).toNat + 4) (tkV b len (tkN b len (n2 b len p)))) 35 (D 35 + 1)
def wdD (D : Nat → Int) (p : Nat) : Nat → Int := upF D 36 (tkV b len p)
/-- lines from the TOKEN at p on: FAULT, its place, lines, what is told -/
def plN : Nat → Nat → (Nat → Int) → Bool → Nat → Int × Int × Int × (Nat → Int)
  | 0, _, D, _, n => (7, 0, n, D)
  | m + 1, p, D, hw, n =>
    if tkE b len p = true then (1, (tkF b len p : Int), n, D)
    else if tkS b len p = 0 then (if hw = true ∧ ¬ D 36 < D 35 then (6, (tkF b len p : Int), n, D) else (0, 0, n, D))
    else if tkK b len p = -4 then (2, (tkF b len p : Int), n, D)
    else if tkK b len p = 4 then (if hw = true then (4, (tkF b len p : Int), n, D) else if (ckL b len [(0, 4)] (tkN b len p)).1 ≠ 0 then ((ckL b len [(0, 4)] (tkN b len p)).1, (ckL b len [(0, 4)] (tkN b len p)).2, n, D) else plN m (tkN b len (n2 b len p)) (wdD b len D (tkN b len p)) true (n + 1))
    else if ¬ D 35 < 5 then (5, (tkF b len p : Int), n, D)
    else if (ckL b len bds (tkN b len p)).1 ≠ 0 then ((ckL b len bds (tkN b len p)).1, (ckL b len bds (tkN b len p)).2, n, D) else plN m (n2 b len (n2 b len (n2 b len p))) (stD b len D (tkK b len p) (tkN b len p)) hw (n + 1)
end
/-- what is told so far -/
def DW (D : Nat → Int) (hw : Bool) (n : Nat) : Prop := (0 ≤ D 35 ∧ D 35 ≤ 5) ∧ (n : Int) = D 35 + (if hw = true then 1 else 0) ∧ (hw = true → 0 ≤ D 36 ∧ D 36 ≤ 4) ∧ (hw = false → D 36 = 0) ∧ (∀ x, 37 ≤ x → x < 60 → D x = 0) ∧ (∀ i : Nat, (i : Int) < D 35 → SOK D i ∧ D (7 * i + 5) = 0 ∧ D (7 * i + 6) = 0) ∧ ∀ x, 7 * (D 35).toNat ≤ x → x < 35 → D x = 0
theorem DW.z : DW (fun _ => 0) false 0 := ⟨by simp, by simp, fun h => (by cases h), fun _ => rfl, fun _ _ _ => rfl, fun i hi => by simp at hi; omega, fun _ _ _ => rfl⟩
section
variable {b : Nat → Int} {len : Nat}
theorem ck1 {q : Int × Int} {r : List (Int × Int)} {p : Nat} (h : (ckL b len (q :: r) p).1 = 0) : nfC b len p q.1 q.2 = 0 ∧ (ckL b len r (tkN b len p)).1 = 0 := by
  simp only [ckL] at h
  by_cases z : nfC b len p q.1 q.2 ≠ 0
  · rw [if_pos z] at h; exact absurd h z
  · rw [if_neg z] at h; exact ⟨Classical.not_not.mp z, h⟩
theorem nf_ok {p : Nat} {lo hi : Int} (h : nfC b len p lo hi = 0) : tkE b len p = false ∧ tkS b len p = 2 ∧ lo ≤ tkV b len p ∧ tkV b len p ≤ hi := by
  unfold nfC at h
  split at h
  · cases h
  · rename_i z
    split at h
    · cases h
    · rename_i y
      split at h
      · rename_i x
        exact ⟨by simpa using z, Classical.not_not.mp y, x.1, x.2⟩
      · cases h
theorem nf_in (p : Nat) (lo hi : Int) : 0 ≤ nfC b len p lo hi ∧ nfC b len p lo hi ≤ 3 := by
  unfold nfC
  split
  · omega
  · split
    · omega
    · split <;> omega
theorem sf_in (p : Nat) : 0 ≤ sfC b len p ∧ sfC b len p ≤ 2 := by
  unfold sfC
  split
  · omega
  · split <;> omega
theorem DW.w {D : Nat → Int} {n : Nat} (h : DW D false n) {p : Nat} (hc : (ckL b len [(0, 4)] p).1 = 0) : DW (wdD b len D p) true (n + 1) := by
  obtain ⟨h1, h2, h3, h4, h5, h6, h7⟩ := h
  obtain ⟨-, -, v1, v2⟩ := nf_ok (ck1 hc).1
  unfold wdD
  have e35 : upF D 36 (tkV b len p) 35 = D 35 := upF_n _ _ (by omega)
  refine ⟨by rw [e35]; exact h1, by rw [e35]; simp at h2 ⊢; omega, fun _ => by rw [upF_s]; exact ⟨v1, v2⟩, fun z => (by cases z), fun x a1 a2 => by rw [upF_n _ _ (by omega)]; exact h5 x a1 a2, fun i hi => ?_, fun x a1 a2 => ?_⟩
  · rw [e35] at hi
    obtain ⟨s1, s2, s3⟩ := h6 i hi
    exact ⟨SOK_congr (f := D) (fun x hx => upF_n _ _ (by omega)) (by rw [upF_n _ _ (by omega)]; omega) (by omega) s1, by rw [upF_n _ _ (by omega)]; exact s2, by rw [upF_n _ _ (by omega)]; exact s3⟩
  · rw [e35] at a1
    rw [upF_n _ _ (by omega)]
    exact h7 x a1 a2
theorem stD_35 (D : Nat → Int) (k : Int) (p : Nat) : stD b len D k p 35 = D 35 + 1 := upF_s _ _ _
theorem stD_o (D : Nat → Int) (k : Int) (p : Nat) {x : Nat} (hx : x ≠ 35) (h2 : x < 7 * (D 35).toNat ∨ 7 * (D 35).toNat + 5 ≤ x) : stD b len D k p x = D x := by
  unfold stD
  rw [upF_n _ _ hx, upF_n _ _ (by omega), upF_n _ _ (by omega), upF_n _ _ (by omega), upF_n _ _ (by omega), upF_n _ _ (by omega)]
theorem stD_r {D : Nat → Int} (h : D 35 < 5) (k : Int) (p : Nat) : stD b len D k p (7 * (D 35).toNat) = k ∧ stD b len D k p (7 * (D 35).toNat + 1) = tkV b len p ∧ stD b len D k p (7 * (D 35).toNat + 2) = tkV b len (tkN b len p) ∧ stD b len D k p (7 * (D 35).toNat + 3) = tkV b len (n2 b len p) ∧ stD b len D k p (7 * (D 35).toNat + 4) = tkV b len (tkN b len (n2 b len p)) := by
  unfold stD
  refine ⟨?_, ?_, ?_, ?_, ?_⟩
  · rw [upF_n _ _ (by omega), upF_n _ _ (by omega), upF_n _ _ (by omega), upF_n _ _ (by omega), upF_n _ _ (by omega), upF_s]
  · rw [upF_n _ _ (by omega), upF_n _ _ (by omega), upF_n _ _ (by omega), upF_n _ _ (by omega), upF_s]
  · rw [upF_n _ _ (by omega), upF_n _ _ (by omega), upF_n _ _ (by omega), upF_s]
  · rw [upF_n _ _ (by omega), upF_n _ _ (by omega), upF_s]
  · rw [upF_n _ _ (by omega), upF_s]
theorem DW.s {D : Nat → Int} {hw : Bool} {n : Nat} (h : DW D hw n) (h5' : D 35 < 5) {k : Int} (hk : 0 ≤ k ∧ k ≤ 3) {p : Nat} (hc : (ckL b len bds p).1 = 0) : DW (stD b len D k p) hw (n + 1) := by
  obtain ⟨h1, h2, h3, h4, h5, h6, h7⟩ := h
  obtain ⟨c1, hc⟩ := ck1 hc
  obtain ⟨c2, hc⟩ := ck1 hc
  obtain ⟨c3, hc⟩ := ck1 hc
  obtain ⟨c4, hc⟩ := ck1 hc
  obtain ⟨-, -, v1⟩ := nf_ok c1
  obtain ⟨-, -, v2⟩ := nf_ok c2
  obtain ⟨-, -, v3⟩ := nf_ok c3
  obtain ⟨-, -, v4⟩ := nf_ok c4
  have v3 : 0 ≤ tkV b len (n2 b len p) ∧ tkV b len (n2 b len p) ≤ 9 := v3
  have v4 : 1 ≤ tkV b len (tkN b len (n2 b len p)) ∧ tkV b len (tkN b len (n2 b len p)) ≤ 9 := v4
  obtain ⟨r0, r1, r2, r3, r4⟩ := stD_r (b := b) (len := len) h5' k p
  have e35 := stD_35 (b := b) (len := len) D k p
  have e38 : stD b len D k p 38 = 0 := by rw [stD_o _ _ _ (by omega) (by omega)]; exact h5 38 (by omega) (by omega)
  refine ⟨by rw [e35]; omega, by rw [e35]; omega, fun z => by rw [stD_o _ _ _ (by omega) (by omega)]; exact h3 z, fun z => by rw [stD_o _ _ _ (by omega) (by omega)]; exact h4 z, fun x a1 a2 => by rw [stD_o _ _ _ (by omega) (by omega)]; exact h5 x a1 a2, fun i hi => ?_, fun x a1 a2 => ?_⟩
  · rw [e35] at hi
    by_cases e : (i : Int) = D 35
    · have ei : i = (D 35).toNat := by omega
      have z5 : stD b len D k p (7 * i + 5) = 0 := by rw [ei, stD_o _ _ _ (by omega) (by omega)]; exact h7 _ (by omega) (by omega)
      have z6 : stD b len D k p (7 * i + 6) = 0 := by rw [ei, stD_o _ _ _ (by omega) (by omega)]; exact h7 _ (by omega) (by omega)
      refine ⟨?_, z5, z6⟩
      unfold SOK
      rw [z5, z6, e38, ei, r0, r1, r2, r3, r4]
      exact ⟨hk, v1, v2, v3, v4, by omega, Or.inl rfl⟩
    · obtain ⟨s1, s2, s3⟩ := h6 i (by omega)
      have o : ∀ c, c < 7 → stD b len D k p (7 * i + c) = D (7 * i + c) := fun c hc => stD_o _ _ _ (by omega) (by omega)
      have o0 := o 0 (by omega)
      rw [Nat.add_zero] at o0
      refine ⟨?_, by rw [o 5 (by omega)]; exact s2, by rw [o 6 (by omega)]; exact s3⟩
      have d38 := h5 38 (by omega) (by omega)
      unfold SOK at s1 ⊢
      rw [o0, o 1 (by omega), o 2 (by omega), o 3 (by omega), o 4 (by omega), o 5 (by omega), o 6 (by omega), e38]
      rw [d38] at s1
      exact s1
  · rw [e35] at a1
    rw [stD_o _ _ _ (by omega) (by omega)]
    exact h7 x (by omega) a2
theorem DW.wf {D : Nat → Int} {hw : Bool} {n : Nat} (h : DW D hw n) (hx : ¬ (hw = true ∧ ¬ D 36 < D 35)) : WF D ∧ D 38 = 0 ∧ D 39 = 0 ∧ D 40 = 0 ∧ D 41 = 0 := by
  obtain ⟨h1, h2, h3, h4, h5, h6, h7⟩ := h
  have e := fun x a b => h5 x a b
  refine ⟨⟨h1, fun h0 => ?_, by rw [h5 38 (by omega) (by omega), h5 37 (by omega) (by omega)]; omega, fun i hi => (h6 i hi).1⟩, e 38 (by omega) (by omega), e 39 (by omega) (by omega), e 40 (by omega) (by omega), e 41 (by omega) (by omega)⟩
  cases hw with
  | true =>
    have := h3 rfl
    have : D 36 < D 35 := Classical.not_not.mp (fun z => hx ⟨rfl, z⟩)
    omega
  | false =>
    have := h4 rfl
    omega
end
