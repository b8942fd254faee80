/-! THE ABSTRACT MACHINE. Values: an int, a long (unbounded integers, cut to 32 or 64 bits where they are put down), a reference (a place's number). Memory: ints of a place by index, rows of references of a place by index. -/
abbrev AV : Type := Int ⊕ (Int ⊕ Nat)
abbrev Mem : Type := (Nat → Nat → Int) × (Nat → Nat → Nat)
def rI (μ : Mem) (k j : Nat) : Int := μ.1 k j
def rR (μ : Mem) (k j : Nat) : Nat := μ.2 k j
def wI (μ : Mem) (k j : Nat) (v : Int) : Mem := (fun a b => if a = k ∧ b = j then v else μ.1 a b, μ.2)
def wR (μ : Mem) (k j v : Nat) : Mem := (μ.1, fun a b => if a = k ∧ b = j then v else μ.2 a b)
theorem rI_wI (μ : Mem) (k j k' j' : Nat) (v : Int) : rI (wI μ k j v) k' j' = if k' = k ∧ j' = j then v else rI μ k' j' := rfl
theorem rI_wR (μ : Mem) (k j k' j' v : Nat) : rI (wR μ k j v) k' j' = rI μ k' j' := rfl
theorem rR_wI (μ : Mem) (k j k' j' : Nat) (v : Int) : rR (wI μ k j v) k' j' = rR μ k' j' := rfl
theorem rR_wR (μ : Mem) (k j k' j' v : Nat) : rR (wR μ k j v) k' j' = if k' = k ∧ j' = j then v else rR μ k' j' := rfl
abbrev Gh : Type := va_G × (Nat → ClassId) × (Nat → Nat)
def cv (ad : Nat → Nat) : AV → Value
  | .inl x => .int (Int32.ofInt x)
  | .inr (.inl x) => .long (Int64.ofInt x)
  | .inr (.inr k) => .ref (ad k)
/-- the kinds of the places: 0 to 6 objects by their class, 7 int[], 8 byte[], 9 boolean[], 10 Image[], 11 Sheet[], 12 the rows of a ring, 15 the rows of looks; 13 a static row -/
def kdL : List Nat := [5, 1, 12, 7, 7, 7, 7, 7, 1, 12, 7, 7, 7, 7, 7, 2, 7, 7, 7, 4, 8, 10, 0, 1, 12, 7, 7, 7, 7, 7, 2, 7, 7, 7, 0, 1, 12, 7, 7, 7, 7, 7, 2, 7, 7, 7, 11, 3, 7, 3, 7, 3, 7, 3, 7, 15, 7, 7, 7, 7, 7, 7, 7, 7, 7, 7, 6, 7, 7, 9, 7, 7, 7, 7, 7, 7, 7, 7, 7]
def lnL : List Nat := [0, 0, 5, 7, 7, 7, 7, 7, 0, 5, 7, 7, 7, 7, 7, 0, 6, 6, 6, 0, 160, 2, 0, 0, 5, 7, 7, 7, 7, 7, 0, 6, 6, 6, 0, 0, 5, 7, 7, 7, 7, 7, 0, 6, 6, 6, 4, 0, 40, 0, 40, 0, 40, 0, 40, 10, 41, 41, 41, 41, 41, 41, 41, 41, 41, 41, 0, 180, 60, 2, 60, 160, 5, 205, 410, 4, 4, 160, 60]
def kd (k : Nat) : Nat := if k < 79 then kdL.getD k 99 else if k = 100 ∨ k = 101 then 13 else 99
def ln (k : Nat) : Nat := lnL.getD k 0
/-- the static rows LEAST, GREATEST -/
def stv (k j : Nat) : Int := if k = 100 then ([0, 0, 1, 0, 1] : List Int).getD j 0 else ([3, 99, 9, 9, 9] : List Int).getD j 0
/-- the place that a row of references holds -/
def el (μ : Mem) (k j : Nat) : Nat := if kd k = 12 then rR μ k j else if kd k = 10 then k + 1 + 12 * j else if kd k = 11 then k + 1 + 2 * j else k + 1 + j
/-- the fields of a class: 0 an int, 1 a long, 2 a reference to the place so far behind, 3 a boolean -/
def fsp : Nat → List (Nat × Nat)
  | 0 => [(2, 1), (2, 8), (3, 0)]
  | 1 => [(2, 1), (0, 0), (0, 0), (0, 0), (0, 0), (0, 0), (0, 0)]
  | 2 => [(2, 1), (2, 2), (2, 3), (0, 0)]
  | 3 => [(2, 1), (0, 0), (0, 0)]
  | 4 => [(2, 1), (0, 0), (0, 0), (0, 0), (0, 0), (0, 0), (0, 0)]
  | 5 => [(2, 1), (2, 8), (2, 15), (2, 19), (2, 21), (2, 46), (2, 55), (0, 0)]
  | 6 => [(2, 1), (2, 2), (2, 3), (2, 4), (3, 0), (2, 5), (0, 0), (0, 0), (0, 0), (0, 0), (0, 0), (0, 0), (0, 0), (0, 0), (0, 0), (0, 0), (0, 0), (2, 6), (0, 0), (0, 0), (1, 0), (1, 0), (1, 0), (2, 7), (2, 8), (2, 9), (2, 10), (2, 11), (0, 0), (2, 12)]
  | _ => []
def fval (ad : Nat → Nat) (μ : Mem) (k : Nat) (q : Nat × Nat) (j : Nat) : Value := if q.1 = 2 then .ref (ad (k + q.2)) else if q.1 = 1 then .long (Int64.ofInt (rI μ k j)) else .int (Int32.ofInt (rI μ k j))
def flds (ad : Nat → Nat) (μ : Mem) (k : Nat) : Nat → List (Nat × Nat) → List Value
  | _, [] => []
  | j, q :: r => fval ad μ k q j :: flds ad μ k (j + 1) r
def iarr (μ : Mem) (k : Nat) : Nat → Int32 := fun j => Int32.ofInt (rI μ k j)
def rarr (ad : Nat → Nat) (μ : Mem) (k : Nat) : Nat → Option Nat := fun j => some (ad (el μ k j))
def pic (g : Gh) (μ : Mem) (k : Nat) : va_E :=
  if kd k < 7 then .inr (kd k, flds g.2.2 μ k 0 (fsp (kd k)))
  else if kd k = 7 then .inl (g.2.1 0, ln k, .inl (iarr μ k))
  else if kd k = 8 then .inl (g.2.1 1, ln k, .inl (iarr μ k))
  else if kd k = 9 then .inl (g.2.1 2, ln k, .inl (iarr μ k))
  else if kd k = 10 then .inl (g.2.1 3, ln k, .inr (.inr (.inr (.inr (rarr g.2.2 μ k)))))
  else if kd k = 11 then .inl (g.2.1 4, ln k, .inr (.inr (.inr (.inr (rarr g.2.2 μ k)))))
  else .inl (g.2.1 5, ln k, .inr (.inr (.inr (.inr (rarr g.2.2 μ k)))))
def wl (g : Gh) (μ : Mem) : va_W := (List.range 79).map (fun k => (g.2.2 k, pic g μ k))
def tysG (g : Gh) : List (ClassId × FieldType) := [(g.2.1 0, .int), (g.2.1 1, .byte), (g.2.1 2, .boolean), (g.2.1 3, .object RX0), (g.2.1 4, .object RX3), (g.2.1 5, .array .int)]
def inW (g : Gh) : Nat → Prop := fun q => ∃ k, k < 79 ∧ q = g.2.2 k
theorem wl_get (g : Gh) (μ : Mem) {k : Nat} (h : k < 79) : (wl g μ)[k]? = some (g.2.2 k, pic g μ k) := by
  simp [wl, h]
theorem wl_len (g : Gh) (μ : Mem) : (wl g μ).length = 79 := by simp [wl]
theorem wl_set (g : Gh) (μ μ' : Mem) {k : Nat} {e : va_E} (he : e = pic g μ' k) (h : ∀ j, j ≠ k → pic g μ' j = pic g μ j) : (wl g μ).set k (g.2.2 k, e) = wl g μ' := by
  apply List.ext_getElem?
  intro j
  rw [List.getElem?_set]
  by_cases hj : k = j
  · subst hj
    by_cases hk : k < 79
    · rw [if_pos rfl, if_pos (by rw [wl_len]; exact hk), wl_get g μ' hk, he]
    · rw [if_pos rfl, if_neg (by rw [wl_len]; exact hk)]
      exact (List.getElem?_eq_none (by rw [wl_len]; omega)).symm
  · rw [if_neg hj]
    by_cases hk : j < 79
    · rw [wl_get g μ hk, wl_get g μ' hk, h j (fun q => hj q.symm)]
    · rw [List.getElem?_eq_none (by rw [wl_len]; omega), List.getElem?_eq_none (by rw [wl_len]; omega)]
theorem kd_lt {k n : Nat} (h : kd k = n) (hn : n ≠ 13) (hn2 : n ≠ 99) : k < 79 := by
  unfold kd at h
  by_cases q : k < 79
  · exact q
  · rw [if_neg q] at h
    split at h
    · exact absurd h.symm hn
    · exact absurd h.symm hn2
theorem flds_get (ad : Nat → Nat) (μ : Mem) (k : Nat) : ∀ (l : List (Nat × Nat)) (j i : Nat), (flds ad μ k j l)[i]? = (l[i]?).map (fun q => fval ad μ k q (j + i))
  | [], j, i => by simp [flds]
  | q :: r, j, 0 => by simp [flds]
  | q :: r, j, i + 1 => by
    simp only [flds, List.getElem?_cons_succ]
    rw [flds_get ad μ k r (j + 1) i]
    congr 1
    funext z
    congr 1
    omega
theorem flds_len (ad : Nat → Nat) (μ : Mem) (k : Nat) : ∀ (l : List (Nat × Nat)) (j : Nat), (flds ad μ k j l).length = l.length
  | [], j => rfl
  | q :: r, j => by simp [flds, flds_len ad μ k r (j + 1)]
theorem flds_set (ad : Nat → Nat) (μ : Mem) (k : Nat) (l : List (Nat × Nat)) (i : Nat) (v : Int) {so off : Nat} (hl : l[i]? = some (so, off)) (h2 : so ≠ 2) : (flds ad μ k 0 l).set i (if so = 1 then .long (Int64.ofInt v) else .int (Int32.ofInt v)) = flds ad (wI μ k i v) k 0 l := by
  apply List.ext_getElem?
  intro j
  rw [List.getElem?_set, flds_get, flds_get, flds_len]
  by_cases hj : i = j
  · subst hj
    have hlt : i < l.length := (List.getElem?_eq_some_iff.mp hl).1
    rw [if_pos rfl, if_pos hlt, hl]
    simp only [Option.map_some, fval, if_neg h2]
    by_cases h1 : so = 1
    · simp [h1, rI_wI]
    · simp [h1, rI_wI]
  · rw [if_neg hj]
    cases hq : l[j]? with
    | none => rfl
    | some q =>
      simp only [Option.map_some, fval, rI_wI]
      have : ¬ (True ∧ 0 + j = i) := fun z => hj (by omega)
      rw [if_neg this]
theorem flds_ne (ad : Nat → Nat) (μ : Mem) {k k' : Nat} (i : Nat) (v : Int) (h : k' ≠ k) (l : List (Nat × Nat)) : ∀ j, flds ad (wI μ k i v) k' j l = flds ad μ k' j l := by
  induction l with
  | nil => intro j; rfl
  | cons q r ih =>
    intro j
    simp only [flds, ih, fval, rI_wI]
    have : ¬ (k' = k ∧ j = i) := fun z => h z.1
    rw [if_neg this]
theorem iarr_ne (μ : Mem) {k k' : Nat} (i : Nat) (v : Int) (h : k' ≠ k) : iarr (wI μ k i v) k' = iarr μ k' := by
  funext j
  simp only [iarr, rI_wI]
  rw [if_neg (fun z => h z.1)]
theorem iarr_upd (μ : Mem) (k i : Nat) (v : Int) : iarr (wI μ k i v) k = upd (iarr μ k) i (Int32.ofInt v) := by
  funext j
  simp only [iarr, rI_wI, upd]
  by_cases h : j = i <;> simp [h]
theorem el_wI (μ : Mem) (k i k' j : Nat) (v : Int) : el (wI μ k i v) k' j = el μ k' j := rfl
theorem rarr_wI (ad : Nat → Nat) (μ : Mem) (k i k' : Nat) (v : Int) : rarr ad (wI μ k i v) k' = rarr ad μ k' := rfl
theorem pic_wI_ne (g : Gh) (μ : Mem) {k : Nat} (i : Nat) (v : Int) {k' : Nat} (h : k' ≠ k) : pic g (wI μ k i v) k' = pic g μ k' := by
  unfold pic
  rw [flds_ne _ _ _ _ h, iarr_ne _ _ _ h, rarr_wI]
theorem flds_wR (ad : Nat → Nat) (μ : Mem) (k i k' v : Nat) (l : List (Nat × Nat)) : ∀ j, flds ad (wR μ k i v) k' j l = flds ad μ k' j l := by
  induction l with
  | nil => intro j; rfl
  | cons q r ih => intro j; simp only [flds, ih]; rfl
theorem pic_wR_ne (g : Gh) (μ : Mem) {k : Nat} (i v : Nat) {k' : Nat} (h : k' ≠ k) : pic g (wR μ k i v) k' = pic g μ k' := by
  have e : rarr g.2.2 (wR μ k i v) k' = rarr g.2.2 μ k' := by
    funext j
    simp only [rarr, el, rR_wR]
    rw [if_neg (show ¬ (k' = k ∧ j = i) from fun z => h z.1)]
  unfold pic
  rw [flds_wR, e]
  rfl
/-- locals -/
def lg : List (Option AV) → Nat → Option AV
  | [], _ => none
  | a :: _, 0 => a
  | _ :: r, n + 1 => lg r n
def lset : List (Option AV) → Nat → Option AV → List (Option AV)
  | [], _, _ => []
  | _ :: r, 0, v => v :: r
  | a :: r, n + 1, v => a :: lset r n v
def okl (L : List (Option AV)) (i : Nat) : Prop := match i with
  | 0 => True
  | j + 1 => match lg L j with
    | some (.inr (.inl _)) => False
    | _ => True
theorem lg_lt {L : List (Option AV)} {i : Nat} {v : AV} (h : lg L i = some v) : i < L.length := by
  induction L generalizing i with
  | nil => simp [lg] at h
  | cons a r ih => cases i with
    | zero => simp
    | succ n => simp only [lg] at h; simp; exact ih h
theorem lset_len (L : List (Option AV)) (i : Nat) (v : Option AV) : (lset L i v).length = L.length := by
  induction L generalizing i with
  | nil => rfl
  | cons a r ih => cases i with
    | zero => rfl
    | succ n => simp [lset, ih]
theorem lg_lset (L : List (Option AV)) (i j : Nat) (v : Option AV) : lg (lset L i v) j = if j = i ∧ i < L.length then v else lg L j := by
  induction L generalizing i j with
  | nil => simp [lset]
  | cons a r ih => cases i with
    | zero => cases j with
      | zero => simp [lset, lg]
      | succ m => simp [lset, lg]
    | succ n => cases j with
      | zero => simp [lset, lg]
      | succ m => simp [lset, lg, ih]
def lvs (ad : Nat → Nat) (L : List (Option AV)) : List (Nat × Value) := (List.range L.length).filterMap (fun i => (lg L i).map (fun v => (i, cv ad v)))
theorem lvs_mem {ad : Nat → Nat} {L : List (Option AV)} {q : Nat × Value} : q ∈ lvs ad L ↔ ∃ v, lg L q.1 = some v ∧ q.2 = cv ad v := by
  simp only [lvs, List.mem_filterMap, List.mem_range, Option.map_eq_some_iff]
  constructor
  · rintro ⟨i, -, v, h, rfl⟩
    exact ⟨v, h, rfl⟩
  · rintro ⟨v, h, e⟩
    exact ⟨q.1, lg_lt h, v, h, by rw [← e]⟩
theorem lv_mono {ls : Array Slot} {n : Nat} {l l' : List (Nat × Value)} (h : lv_has ls n l) (hs : ∀ q ∈ l', q ∈ l) : lv_has ls n l' := ⟨h.1, h.2.1, fun q hq => h.2.2 q (hs q hq)⟩
theorem cv_cat2 {ad : Nat → Nat} {v : AV} (h : (cv ad v).category = 2) : ∃ x, v = .inr (.inl x) := by
  rcases v with x | x | k
  · simp [cv, Value.category] at h
  · exact ⟨x, rfl⟩
  · simp [cv, Value.category] at h
theorem lvs_store {ad : Nat → Nat} {L : List (Option AV)} {i : Nat} {v : AV} (ho : okl L i) : ∀ q ∈ lvs ad (lset L i (some v)), q ∈ (i, cv ad v) :: (lvs ad L).filter (fun q => !(q.1 == i) && !(q.1 + 1 == i && q.2.category == 2)) := by
  intro q hq
  obtain ⟨w, hw, e⟩ := lvs_mem.mp hq
  rw [lg_lset] at hw
  by_cases h : q.1 = i ∧ i < L.length
  · rw [if_pos h] at hw
    cases hw
    rw [List.mem_cons]
    left
    rw [← h.1, ← e]
  · rw [if_neg h] at hw
    have hlt := lg_lt hw
    have hne : q.1 ≠ i := fun z => h ⟨z, by rw [← z]; exact hlt⟩
    rw [List.mem_cons]
    right
    rw [List.mem_filter]
    refine ⟨lvs_mem.mpr ⟨w, hw, e⟩, ?_⟩
    simp only [Bool.and_eq_true, Bool.not_eq_true', beq_eq_false_iff_ne, Bool.and_eq_false_iff]
    refine ⟨hne, ?_⟩
    by_cases h1 : q.1 + 1 = i
    · right
      rw [e]
      intro z
      obtain ⟨x, rfl⟩ := cv_cat2 z
      subst h1
      simp only [okl, hw] at ho
    · exact Or.inl h1
theorem lvs_store2 {ad : Nat → Nat} {L : List (Option AV)} {i : Nat} {v : AV} (ho : okl L i) : ∀ q ∈ lvs ad (lset (lset L i (some v)) (i + 1) none), q ∈ (i, cv ad v) :: (lvs ad L).filter (fun q => !(q.1 == i) && (!(q.1 == i + 1) && !(q.1 + 1 == i && q.2.category == 2))) := by
  intro q hq
  obtain ⟨w, hw, e⟩ := lvs_mem.mp hq
  rw [lg_lset, lset_len] at hw
  by_cases h : q.1 = i + 1 ∧ i + 1 < L.length
  · rw [if_pos h] at hw; cases hw
  · rw [if_neg h] at hw
    have h3 : lvs ad (lset L i (some v)) = lvs ad (lset L i (some v)) := rfl
    have hq2 : q ∈ lvs ad (lset L i (some v)) := lvs_mem.mpr ⟨w, hw, e⟩
    have hlt := lg_lt hw
    rw [lset_len] at hlt
    have hn : q.1 ≠ i + 1 := fun z => h ⟨z, by rw [← z]; exact hlt⟩
    rcases List.mem_cons.mp (lvs_store ho q hq2) with z | z
    · exact List.mem_cons.mpr (Or.inl z)
    · rw [List.mem_filter] at z
      refine List.mem_cons.mpr (Or.inr (List.mem_filter.mpr ⟨z.1, ?_⟩))
      have z2 := z.2
      simp only [Bool.and_eq_true, Bool.not_eq_true', beq_eq_false_iff_ne] at z2 ⊢
      exact ⟨z2.1, hn, z2.2⟩
