/-! memory in bulk; the flat state and a visit of it -/
def wB (μ : Mem) (k n : Nat) (g : Nat → Int) : Mem := (fun a b => if a = k ∧ b < n then g b else μ.1 a b, μ.2)
theorem rI_wB (μ : Mem) (k n : Nat) (g : Nat → Int) (a b : Nat) : rI (wB μ k n g) a b = if a = k ∧ b < n then g b else rI μ a b := rfl
theorem rR_wB (μ : Mem) (k n : Nat) (g : Nat → Int) (a b : Nat) : rR (wB μ k n g) a b = rR μ a b := rfl
theorem wB_0 (μ : Mem) (k : Nat) (g : Nat → Int) : wB μ k 0 g = μ := by
  unfold wB
  apply Prod.ext
  · funext a b; simp
  · rfl
theorem wI_wB (μ : Mem) (k n : Nat) (g : Nat → Int) {v : Int} (hv : v = g n) : wI (wB μ k n g) k n v = wB μ k (n + 1) g := by
  subst hv
  unfold wB wI
  apply Prod.ext
  · funext a b
    dsimp only
    by_cases h1 : a = k
    · subst h1
      by_cases h2 : b = n
      · subst h2; simp
      · by_cases h3 : b < n
        · have : b < n + 1 := by omega
          simp [h2, h3, this]
        · have : ¬ b < n + 1 := by omega
          simp [h2, h3, this]
    · simp [h1]
  · rfl
theorem wC_0 (μ : Mem) (k0 sp k1 dp : Nat) : wC μ k0 sp k1 dp 0 = μ := by
  unfold wC
  apply Prod.ext
  · funext a b
    dsimp only
    rw [if_neg (by omega)]
  · rfl
theorem wI_wC (μ : Mem) (k0 sp k1 dp n : Nat) {v : Int} (hv : v = rI μ k0 (sp + n)) : wI (wC μ k0 sp k1 dp n) k1 (dp + n) v = wC μ k0 sp k1 dp (n + 1) := by
  subst hv
  unfold wC wI
  apply Prod.ext
  · funext a b
    dsimp only
    by_cases h1 : a = k1
    · subst h1
      by_cases h2 : b = dp + n
      · subst h2
        have e : dp + n - dp = n := by omega
        rw [if_pos ⟨rfl, rfl⟩, if_pos ⟨rfl, by omega, by omega⟩, e]
        rfl
      · rw [if_neg (fun z => h2 z.2)]
        by_cases h3 : dp ≤ b ∧ b < dp + n
        · rw [if_pos ⟨rfl, h3⟩, if_pos ⟨rfl, by omega, by omega⟩]
        · rw [if_neg (fun z => h3 z.2), if_neg (fun z => h3 ⟨z.2.1, by omega⟩)]
    · rw [if_neg (fun z => h1 z.1), if_neg (fun z => h1 z.1), if_neg (fun z => h1 z.1)]
  · rfl
theorem mem_ext {μ μ' : Mem} (h : ∀ k j, rI μ k j = rI μ' k j) (h2 : ∀ k j, rR μ k j = rR μ' k j) : μ = μ' := Prod.ext (funext fun k => funext fun j => h k j) (funext fun k => funext fun j => h2 k j)
def upF (f : Nat → Int) (j : Nat) (v : Int) : Nat → Int := fun x => if x = j then v else f x
def outB (f : Nat → Int) (q : Int) : Nat → Bool
  | 0 => false
  | n + 1 => outB f q n || decide (q < f (7 * n + 1))
def dm (f : Nat → Int) (i : Nat) : Int := min (f (7 * i + 1)) (if f (7 * i) = 1 then 2 * f (7 * i + 2) else f (7 * i + 2))
/-- how many STATION i would SEND -/
def due (f : Nat → Int) (i : Nat) : Int := if f (7 * i) = 3 ∧ f (7 * i + 6) = 1 then 0 else if (f (7 * i) = 2 ∨ f (7 * i) = 3) ∧ 0 < dm f i ∧ outB f (f (7 * i + 1)) (f 35).toNat = true then dm f i - 1 else dm f i
/-- letters that find room -/
def cmG (f : Nat → Int) (t : Int) (k : Nat) : Int := min (t * f (7 * k + 3)) (99 - f (7 * k + 1))
def cmF (f : Nat → Int) (t : Int) : Nat → Nat → Int
  | 0 => f
  | n + 1 => upF (cmF f t n) (7 * n + 1) (f (7 * n + 1) + cmG f t n)
def cmL (f : Nat → Int) (t : Int) : Nat → Int
  | 0 => 0
  | n + 1 => cmL f t n + (t * f (7 * n + 3) - cmG f t n)
def mid (f : Nat → Int) (i : Nat) (s : Int) : Nat → Int := upF (upF (upF (upF (upF f 38 (f 38 + 1)) (7 * i + 1) (f (7 * i + 1) - s)) (7 * i + 6) (if 0 < s then 1 else 0)) (7 * i + 5) (f (7 * i + 5) + s)) 37 (f 37 + (s + f (7 * i + 4)))
def tms (f : Nat → Int) (i : Nat) (s : Int) : Int := (f 37 + (s + f (7 * i + 4))) / 10 - f 37 / 10
def sndI (f : Nat → Int) (may : Bool) : Int := if f 35 = 0 then 0 else if may = true then due f (f 36).toNat else 0
def nxt (f : Nat → Int) (may : Bool) : Nat → Int := if f 35 = 0 then upF f 38 (f 38 + 1) else upF (cmF (mid f (f 36).toNat (sndI f may)) (tms f (f 36).toNat (sndI f may)) (f 35).toNat) 36 (if f 36 + 1 < f 35 then f 36 + 1 else 0)
def lstI (f : Nat → Int) (may : Bool) : Int := if f 35 = 0 then 0 else cmL (mid f (f 36).toNat (sndI f may)) (tms f (f 36).toNat (sndI f may)) (f 35).toNat
/-- a STATION as the document has it -/
def SOK (f : Nat → Int) (i : Nat) : Prop := (0 ≤ f (7 * i) ∧ f (7 * i) ≤ 3) ∧ (0 ≤ f (7 * i + 1) ∧ f (7 * i + 1) ≤ 99) ∧ (1 ≤ f (7 * i + 2) ∧ f (7 * i + 2) ≤ 9) ∧ (0 ≤ f (7 * i + 3) ∧ f (7 * i + 3) ≤ 9) ∧ (1 ≤ f (7 * i + 4) ∧ f (7 * i + 4) ≤ 9) ∧ (0 ≤ f (7 * i + 5) ∧ f (7 * i + 5) ≤ 18 * f 38) ∧ (f (7 * i + 6) = 0 ∨ f (7 * i + 6) = 1)
def WF (f : Nat → Int) : Prop := (0 ≤ f 35 ∧ f 35 ≤ 5) ∧ (f 35 ≠ 0 → 0 ≤ f 36 ∧ f 36 < f 35) ∧ (0 ≤ f 38 ∧ 0 ≤ f 37 ∧ f 37 ≤ 27 * f 38) ∧ ∀ i : Nat, (i : Int) < f 35 → SOK f i
theorem upF_s (f : Nat → Int) (j : Nat) (v : Int) : upF f j v j = v := if_pos rfl
theorem upF_n (f : Nat → Int) {j x : Nat} (v : Int) (h : x ≠ j) : upF f j v x = f x := if_neg h
theorem cmF_out (f : Nat → Int) (t : Int) : ∀ (n x : Nat), (∀ k, k < n → x ≠ 7 * k + 1) → cmF f t n x = f x
  | 0, x, _ => rfl
  | n + 1, x, h => by
    rw [cmF, upF_n _ _ (h n (by omega))]
    exact cmF_out f t n x (fun k hk => h k (by omega))
theorem cmF_in (f : Nat → Int) (t : Int) : ∀ (n k : Nat), k < n → cmF f t n (7 * k + 1) = f (7 * k + 1) + cmG f t k
  | 0, k, h => by omega
  | n + 1, k, h => by
    rw [cmF]
    by_cases e : k = n
    · subst e; rw [upF_s]
    · rw [upF_n _ _ (by omega)]
      exact cmF_in f t n k (by omega)
theorem mid_q (f : Nat → Int) (i : Nat) (s : Int) (k c : Nat) (hc : c < 7) (hi : i < 5) (hk : k < 5) : mid f i s (7 * k + c) = if k = i then (if c = 1 then f (7 * i + 1) - s else if c = 5 then f (7 * i + 5) + s else if c = 6 then (if 0 < s then 1 else 0) else f (7 * k + c)) else f (7 * k + c) := by
  unfold mid
  rw [upF_n _ _ (show 7 * k + c ≠ 37 by omega)]
  by_cases e : k = i
  · subst e
    rw [if_pos rfl]
    by_cases c5 : c = 5
    · subst c5; rw [upF_s]; simp
    · rw [upF_n _ _ (by omega)]
      by_cases c6 : c = 6
      · subst c6; rw [upF_s]; simp
      · rw [upF_n _ _ (by omega)]
        by_cases c1 : c = 1
        · subst c1; rw [upF_s]; simp
        · rw [upF_n _ _ (by omega), upF_n _ _ (by omega), if_neg c1, if_neg c5, if_neg c6]
  · rw [if_neg e, upF_n _ _ (by omega), upF_n _ _ (by omega), upF_n _ _ (by omega), upF_n _ _ (by omega)]
theorem mid_o (f : Nat → Int) (i : Nat) (s : Int) (x : Nat) (hi : i < 5) (hx : 35 ≤ x) : mid f i s x = if x = 37 then f 37 + (s + f (7 * i + 4)) else if x = 38 then f 38 + 1 else f x := by
  unfold mid
  by_cases e : x = 37
  · subst e; rw [upF_s]; simp
  · rw [upF_n _ _ e, if_neg e, upF_n _ _ (by omega), upF_n _ _ (by omega), upF_n _ _ (by omega)]
    by_cases e2 : x = 38
    · subst e2; rw [upF_s]; simp
    · rw [upF_n _ _ e2, if_neg e2]
theorem due_in {f : Nat → Int} {i : Nat} (h : SOK f i) : 0 ≤ due f i ∧ due f i ≤ 18 ∧ due f i ≤ f (7 * i + 1) := by
  obtain ⟨a, b, c, d, e, g, k⟩ := h
  have hd : 0 ≤ dm f i ∧ dm f i ≤ 18 ∧ dm f i ≤ f (7 * i + 1) := by
    unfold dm
    split <;> omega
  unfold due
  split
  · omega
  · split <;> omega
theorem snd_in {f : Nat → Int} (h : WF f) (may : Bool) : 0 ≤ sndI f may ∧ sndI f may ≤ 18 ∧ (f 35 ≠ 0 → sndI f may ≤ f (7 * (f 36).toNat + 1)) := by
  unfold sndI
  by_cases h0 : f 35 = 0
  · rw [if_pos h0]; exact ⟨by omega, by omega, fun z => absurd h0 z⟩
  · rw [if_neg h0]
    obtain ⟨h1, h2, h3, h4⟩ := h
    have h2 := h2 h0
    have hs := h4 (f 36).toNat (by omega)
    split
    · have := due_in hs; exact ⟨this.1, this.2.1, fun _ => this.2.2⟩
    · have := hs.2.1; exact ⟨by omega, by omega, fun _ => by omega⟩
theorem cmG_in {f : Nat → Int} {t : Int} {k : Nat} (h : SOK f k) (ht : 0 ≤ t ∧ t ≤ 3) : 0 ≤ cmG f t k ∧ cmG f t k ≤ 99 - f (7 * k + 1) ∧ cmG f t k ≤ t * f (7 * k + 3) ∧ 0 ≤ t * f (7 * k + 3) ∧ t * f (7 * k + 3) ≤ 27 := by
  obtain ⟨a, b, c, d, e, g, kk⟩ := h
  have h0 : 0 ≤ t * f (7 * k + 3) := Int.mul_nonneg ht.1 d.1
  have h1 : t * f (7 * k + 3) ≤ 3 * 9 := Int.mul_le_mul ht.2 d.2 d.1 (by omega)
  unfold cmG
  omega
theorem tms_in {f : Nat → Int} {i : Nat} {s : Int} (h : SOK f i) (h0 : 0 ≤ f 37) (hs : 0 ≤ s ∧ s ≤ 18) : 0 ≤ tms f i s ∧ tms f i s ≤ 3 := by
  obtain ⟨a, b, c, d, e, g, kk⟩ := h
  unfold tms
  omega
/-- a visit of a state leaves a state -/
theorem nxt_o (f : Nat → Int) (may : Bool) {x : Nat} (hx : 39 ≤ x ∨ x = 35) (h : WF f) : nxt f may x = f x := by
  obtain ⟨h1, h2, h3, h4⟩ := h
  unfold nxt
  by_cases h0 : f 35 = 0
  · rw [if_pos h0, upF_n _ _ (by omega)]
  · have h2 := h2 h0
    rw [if_neg h0, upF_n _ _ (by omega), cmF_out _ _ _ _ (fun k hk => by omega), mid_o _ _ _ _ (by omega) (by omega), if_neg (by omega), if_neg (by omega)]
theorem nxt_t (f : Nat → Int) (may : Bool) (h : WF f) (h0 : f 35 ≠ 0) : nxt f may 37 = f 37 + (sndI f may + f (7 * (f 36).toNat + 4)) ∧ nxt f may 38 = f 38 + 1 ∧ nxt f may 36 = (if f 36 + 1 < f 35 then f 36 + 1 else 0) := by
  obtain ⟨h1, h2, h3, h4⟩ := h
  have h2 := h2 h0
  unfold nxt
  rw [if_neg h0]
  refine ⟨?_, ?_, upF_s _ _ _⟩
  · rw [upF_n _ _ (by omega), cmF_out _ _ _ _ (fun k hk => by omega), mid_o _ _ _ _ (by omega) (by omega)]
    simp
  · rw [upF_n _ _ (by omega), cmF_out _ _ _ _ (fun k hk => by omega), mid_o _ _ _ _ (by omega) (by omega)]
    simp
theorem nxt_q (f : Nat → Int) (may : Bool) (h : WF f) (k c : Nat) (hk : (k : Int) < f 35) (hc : c < 7) : nxt f may (7 * k + c) = (if c = 1 then mid f (f 36).toNat (sndI f may) (7 * k + 1) + cmG (mid f (f 36).toNat (sndI f may)) (tms f (f 36).toNat (sndI f may)) k else mid f (f 36).toNat (sndI f may) (7 * k + c)) := by
  obtain ⟨h1, h2, h3, h4⟩ := h
  have h0 : f 35 ≠ 0 := by omega
  have h2 := h2 h0
  unfold nxt
  rw [if_neg h0, upF_n _ _ (by omega)]
  by_cases e : c = 1
  · subst e
    rw [if_pos rfl, cmF_in _ _ _ _ (by omega)]
  · rw [if_neg e, cmF_out _ _ _ _ (fun j hj => by omega)]
theorem mid_SOK {f : Nat → Int} {may : Bool} (h : WF f) (h0 : f 35 ≠ 0) {k : Nat} (hk : (k : Int) < f 35) : SOK (mid f (f 36).toNat (sndI f may)) k := by
  have hs := snd_in h may
  obtain ⟨h1, h2, h3, h4⟩ := h
  have h2 := h2 h0
  have hs3 := hs.2.2 h0
  have hi : (f 36).toNat < 5 := by omega
  have hk5 : k < 5 := by omega
  have q := h4 k hk
  unfold SOK at q ⊢
  rw [mid_o f _ _ 38 hi (by omega)]
  have e0 := mid_q f (f 36).toNat (sndI f may) k 0 (by omega) hi hk5
  rw [Nat.add_zero] at e0
  rw [e0, mid_q f _ _ k 1 (by omega) hi hk5, mid_q f _ _ k 2 (by omega) hi hk5, mid_q f _ _ k 3 (by omega) hi hk5, mid_q f _ _ k 4 (by omega) hi hk5, mid_q f _ _ k 5 (by omega) hi hk5, mid_q f _ _ k 6 (by omega) hi hk5]
  by_cases e : k = (f 36).toNat
  · rw [← e] at hs3 ⊢
    simp only [if_true]
    refine ⟨?_, ?_, ?_, ?_, ?_, ?_, ?_⟩
    all_goals first | (simp; omega) | (simp; split <;> omega)
  · simp only [if_neg e]
    refine ⟨?_, ?_, ?_, ?_, ?_, ?_, ?_⟩
    all_goals first | omega | (simp; omega)
theorem nxt_WF {f : Nat → Int} (may : Bool) (h : WF f) : WF (nxt f may) := by
  have hw := h
  obtain ⟨h1, h2, h3, h4⟩ := h
  by_cases h0 : f 35 = 0
  · have e : nxt f may = upF f 38 (f 38 + 1) := by unfold nxt; rw [if_pos h0]
    rw [e]
    refine ⟨?_, ?_, ?_, ?_⟩
    · rw [upF_n _ _ (by omega)]; exact h1
    · rw [upF_n _ _ (by omega)]; exact fun z => absurd h0 z
    · rw [upF_s, upF_n _ _ (by omega)]; omega
    · intro i hi
      rw [upF_n _ _ (by omega)] at hi
      omega
  · have e35 := nxt_o f may (x := 35) (by omega) hw
    obtain ⟨e37, e38, e36⟩ := nxt_t f may hw h0
    have hs := snd_in hw may
    have h2 := h2 h0
    have hq := h4 (f 36).toNat (by omega)
    refine ⟨by rw [e35]; exact h1, fun _ => ?_, ?_, ?_⟩
    · rw [e35, e36]; split <;> omega
    · rw [e37, e38]
      have := hq.2.2.2.2.1
      omega
    · intro k hk
      rw [e35] at hk
      have hm := mid_SOK (may := may) hw h0 hk
      have ht := tms_in hq h3.2.1 ⟨hs.1, hs.2.1⟩
      have hc := cmG_in hm ht
      unfold SOK at hm ⊢
      rw [mid_o f _ _ 38 (by omega) (by omega)] at hm
      have n0 := nxt_q f may hw k 0 hk (by omega)
      rw [Nat.add_zero, if_neg (by omega)] at n0
      rw [n0, nxt_q f may hw k 1 hk (by omega), nxt_q f may hw k 2 hk (by omega), nxt_q f may hw k 3 hk (by omega), nxt_q f may hw k 4 hk (by omega), nxt_q f may hw k 5 hk (by omega), nxt_q f may hw k 6 hk (by omega), e38]
      rw [if_neg (by omega), if_pos rfl] at hm
      simp only [if_true]
      obtain ⟨m1, m2, m3, m4, m5, m6, m7⟩ := hm
      refine ⟨m1, by omega, by simpa using m3, by simpa using m4, by simpa using m5, by simpa using m6, by simpa using m7⟩
