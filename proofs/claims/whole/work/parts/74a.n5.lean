/-! the start: the class's cells as places; the relation holds -/
def pm (k : Nat) : Nat := if k < 22 then k else if k < 46 then k + 12 else if k = 46 then 22 else if k < 55 then k + 11 else if k < 66 then k - 32 else k
theorem muA_0 {k : Nat} (j : Nat) (h : (54 ≤ k ∨ k = 0 ∨ (2 ≤ k ∧ k < 8) ∨ (9 ≤ k ∧ k < 23) ∨ (24 ≤ k ∧ k < 35) ∨ (36 ≤ k ∧ k < 47) ∨ k = 48 ∨ k = 50 ∨ k = 52)) : rI mu0 k j = 0 := by
  show (if (k = 1 ∨ k = 8 ∨ k = 23 ∨ k = 35) ∧ j = 2 then (-4 : Int) else if (k = 47 ∨ k = 49 ∨ k = 51 ∨ k = 53) ∧ (j = 1 ∨ j = 2) then -4 else 0) = 0
  rw [if_neg (by omega), if_neg (by omega)]
theorem get_o {α : Type} {u v : List α} {n i : Nat} {q : α} (hl : u.length = n) (h : v[i]? = some q) : (u ++ v)[n + i]? = some q := by rw [List.getElem?_append_right (by omega), show n + i - u.length = i by omega]; exact h
theorem tlP {g : Gh} {h : Nat} {H : Heap} (hP : va_P g.1 vwCl ((h, eF_5 g (h + 1)) :: tl_5 g (h + 1)) H) (m : Nat) {q : Nat × va_E} (hm : (tl_5 g (h + 1))[m]? = some q) : va_at g.1 vwCl q H := hP (m + 1) q (by rw [List.getElem?_cons_succ]; exact hm)
theorem vq_cg (c : ClassId) {N : Nat} {f f' : Nat → Option Nat} (h : ∀ j, j < N → f j = f' j) : vp_cell c (N, .inr (.inr (.inr (.inr f)))) = vp_cell c (N, .inr (.inr (.inr (.inr f')))) := by
  rw [vp_cell_q, vp_cell_q]
  exact arrV_cg c (fun j hj => by rw [h j hj])
set_option maxRecDepth 20000 in
theorem cc_0 {g : Gh} {h : Nat} {H : Heap} (hg : ∀ k, k < 79 → g.2.2 k = h + pm k) (hP : va_P g.1 vwCl ((h, eF_5 g (h + 1)) :: tl_5 g (h + 1)) H) : va_at g.1 vwCl (g.2.2 0, pic g mu0 0) H := by
  have e : pic g mu0 0 = .inr (5, [.ref (g.2.2 1), .ref (g.2.2 8), .ref (g.2.2 15), .ref (g.2.2 19), .ref (g.2.2 21), .ref (g.2.2 46), .ref (g.2.2 55), .int 0]) := rfl
  have e0 : g.2.2 0 = h + 0 := hg 0 (by decide)
  have e1 : g.2.2 1 = h + 1 := hg 1 (by decide)
  have e8 : g.2.2 8 = h + 8 := hg 8 (by decide)
  have e15 : g.2.2 15 = h + 15 := hg 15 (by decide)
  have e19 : g.2.2 19 = h + 19 := hg 19 (by decide)
  have e21 : g.2.2 21 = h + 21 := hg 21 (by decide)
  have e46 : g.2.2 46 = h + 22 := hg 46 (by decide)
  have e55 : g.2.2 55 = h + 23 := hg 55 (by decide)
  rw [e, e0, e1, e8, e15, e19, e21, e46, e55]
  exact hP 0 _ rfl
set_option maxRecDepth 20000 in
theorem cc_1 {g : Gh} {h : Nat} {H : Heap} (hg : ∀ k, k < 79 → g.2.2 k = h + pm k) (hP : va_P g.1 vwCl ((h, eF_5 g (h + 1)) :: tl_5 g (h + 1)) H) : va_at g.1 vwCl (g.2.2 1, pic g mu0 1) H := by
  have e : pic g mu0 1 = .inr (1, [.ref (g.2.2 2), .int 0, .int (-4), .int 0, .int 0, .int 0, .int 0]) := rfl
  have e1 : g.2.2 1 = h + 1 := hg 1 (by decide)
  have e2 : g.2.2 2 = h + 2 := hg 2 (by decide)
  rw [e, e1, e2]
  exact tlP hP 0 (get_l (get_l (get_l (get_l (get_l (get_l (get_l (get_l (get_l (get_l (get_l (get_l (rfl)))))))))))))
set_option maxRecDepth 20000 in
theorem cc_2 {g : Gh} {h : Nat} {H : Heap} (hg : ∀ k, k < 79 → g.2.2 k = h + pm k) (hP : va_P g.1 vwCl ((h, eF_5 g (h + 1)) :: tl_5 g (h + 1)) H) : va_at g.1 vwCl (g.2.2 2, pic g mu0 2) H := by
  have e : pic g mu0 2 = .inl (g.2.1 5, 5, .inr (.inr (.inr (.inr (rarr g.2.2 mu0 2))))) := rfl
  have e2 : g.2.2 2 = h + 2 := hg 2 (by decide)
  rw [e, e2]
  have q : H[h + 2]? = some (vp_cell (g.2.1 5) (5, .inr (.inr (.inr (.inr (fun j => some (h + 2 + 1 + j))))))) := tlP hP 1 (get_l (get_l (get_l (get_l (get_l (get_l (get_l (get_l (get_l (get_l (get_l (get_l (rfl)))))))))))))
  show H[h + 2]? = some (vp_cell (g.2.1 5) (5, .inr (.inr (.inr (.inr (rarr g.2.2 mu0 2))))))
  rw [q]
  refine congrArg some (vq_cg _ (fun j hj => ?_))
  rcases (show j = 0 ∨ j = 1 ∨ j = 2 ∨ j = 3 ∨ j = 4 by omega) with rfl | rfl | rfl | rfl | rfl
  · exact congrArg some (hg 3 (by decide)).symm
  · exact congrArg some (hg 4 (by decide)).symm
  · exact congrArg some (hg 5 (by decide)).symm
  · exact congrArg some (hg 6 (by decide)).symm
  · exact congrArg some (hg 7 (by decide)).symm
set_option maxRecDepth 20000 in
theorem cc_3 {g : Gh} {h : Nat} {H : Heap} (hg : ∀ k, k < 79 → g.2.2 k = h + pm k) (hP : va_P g.1 vwCl ((h, eF_5 g (h + 1)) :: tl_5 g (h + 1)) H) : va_at g.1 vwCl (g.2.2 3, pic g mu0 3) H := by
  have e : pic g mu0 3 = .inl (g.2.1 0, 7, .inl (fun _ => 0)) := by
    have i0 : iarr mu0 3 = fun _ => 0 := funext (fun j => by show Int32.ofInt (rI mu0 3 j) = 0; rw [muA_0 j (by decide)]; rfl)
    rw [← i0]
    exact pic_7 g mu0 (by decide)
  have e3 : g.2.2 3 = h + 3 := hg 3 (by decide)
  rw [e, e3]
  exact tlP hP 2 (get_l (get_l (get_l (get_l (get_l (get_l (get_l (get_l (get_l (get_l (get_l (get_l (rfl)))))))))))))
