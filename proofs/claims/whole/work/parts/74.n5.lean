/-! the start: the class's cells as places; the relation holds -/
def pm (k : Nat) : Nat := if k < 22 then k else if k < 46 then k + 12 else if k = 46 then 22 else if k < 55 then k + 11 else if k < 66 then k - 32 else k
theorem get_o {α : Type} {u v : List α} {n i : Nat} {q : α} (hl : u.length = n) (h : v[i]? = some q) : (u ++ v)[n + i]? = some q := by rw [List.getElem?_append_right (by omega), show n + i - u.length = i by omega]; exact h
theorem vq_cg (c : ClassId) {N : Nat} {f f' : Nat → Option Nat} (h : ∀ j, j < N → f j = f' j) : vp_cell c (N, .inr (.inr (.inr (.inr f)))) = vp_cell c (N, .inr (.inr (.inr (.inr f')))) := by
  rw [vp_cell_q, vp_cell_q]
  exact arrV_cg c (fun j hj => by rw [h j hj])
set_option maxRecDepth 20000 in
theorem cc_0 {g : Gh} {h : Nat} {H : Heap} (hg : ∀ k, k < 79 → g.2.2 k = h + pm k) (hP : va_P g.1 vwCl ((h, eF_5 g (h + 1)) :: tl_5 g (h + 1)) H) : va_at g.1 vwCl (g.2.2 0, pic g mu0 0) H := by
  have e : pic g mu0 0 = .inr (5, [.ref (g.2.2 1), .ref (g.2.2 8), .ref (g.2.2 15), .ref (g.2.2 19), .ref (g.2.2 21), .ref (g.2.2 46), .ref (g.2.2 55), .int 0]) := rfl
  have e0 : g.2.2 0 = h + 0 := hg 0 (by decide)
  have e1 : g.2.2 1 = h + 1 := hg 1 (by decide)
  have e8 : g.2.2 8 = h + 8 := hg 8 (by decide)
  have e15 : g.2.2 15 = h + 15 := hg 15 (by decide)
  have e19 : g.2.2 19 = h + 19 := hg 19 (by decide)
  have e21 : g.2.2 21 = h + 21 := hg 21 (by decide)
  have e46 : g.2.2 46 = h + 22 := hg 46 (by decide)
  have e55 : g.2.2 55 = h + 23 := hg 55 (by decide)
  rw [e, e0, e1, e8, e15, e19, e21, e46, e55]
  exact hP 0 _ rfl
set_option maxRecDepth 20000 in
theorem cc_1 {g : Gh} {h : Nat} {H : Heap} (hg : ∀ k, k < 79 → g.2.2 k = h + pm k) (hP : va_P g.1 vwCl ((h, eF_5 g (h + 1)) :: tl_5 g (h + 1)) H) : va_at g.1 vwCl (g.2.2 1, pic g mu0 1) H := by
  have e : pic g mu0 1 = .inr (1, [.ref (g.2.2 2), .int 0, .int (-4), .int 0, .int 0, .int 0, .int 0]) := rfl
  have e1 : g.2.2 1 = h + 1 := hg 1 (by decide)
  have e2 : g.2.2 2 = h + 2 := hg 2 (by decide)
  rw [e, e1, e2]
  exact hP 1 _ (show (tl_5 g (h + 1))[0]? = _ from get_l (get_l (get_l (get_l (get_l (get_l (get_l (get_l (get_l (get_l (get_l (get_l (rfl)))))))))))))
set_option maxRecDepth 20000 in
theorem cc_2 {g : Gh} {h : Nat} {H : Heap} (hg : ∀ k, k < 79 → g.2.2 k = h + pm k) (hP : va_P g.1 vwCl ((h, eF_5 g (h + 1)) :: tl_5 g (h + 1)) H) : va_at g.1 vwCl (g.2.2 2, pic g mu0 2) H := by
  have e : pic g mu0 2 = .inl (g.2.1 5, 5, .inr (.inr (.inr (.inr (rarr g.2.2 mu0 2))))) := rfl
  have e2 : g.2.2 2 = h + 2 := hg 2 (by decide)
  rw [e, e2]
  have q : H[h + 2]? = some (vp_cell (g.2.1 5) (5, .inr (.inr (.inr (.inr (fun j => some (h + 2 + 1 + j))))))) := hP 2 _ (show (tl_5 g (h + 1))[1]? = _ from get_l (get_l (get_l (get_l (get_l (get_l (get_l (get_l (get_l (get_l (get_l (get_l (rfl)))))))))))))
  show H[h + 2]? = some (vp_cell (g.2.1 5) (5, .inr (.inr (.inr (.inr (rarr g.2.2 mu0 2))))))
  rw [q]
  refine congrArg some (vq_cg _ (fun j hj => ?_))
  rcases (show j = 0 ∨ j = 1 ∨ j = 2 ∨ j = 3 ∨ j = 4 by omega) with rfl | rfl | rfl | rfl | rfl
  · exact congrArg some (hg 3 (by decide)).symm
  · exact congrArg some (hg 4 (by decide)).symm
  · exact congrArg some (hg 5 (by decide)).symm
  · exact congrArg some (hg 6 (by decide)).symm
  · exact congrArg some (hg 7 (by decide)).symm
set_option maxRecDepth 20000 in
theorem cc_3 {g : Gh} {h : Nat} {H : Heap} (hg : ∀ k, k < 79 → g.2.2 k = h + pm k) (hP : va_P g.1 vwCl ((h, eF_5 g (h + 1)) :: tl_5 g (h + 1)) H) : va_at g.1 vwCl (g.2.2 3, pic g mu0 3) H := by
  have e : pic g mu0 3 = .inl (g.2.1 0, 7, .inl (fun _ => 0)) := rfl
  have e3 : g.2.2 3 = h + 3 := hg 3 (by decide)
  rw [e, e3]
  exact hP 3 _ (show (tl_5 g (h + 1))[2]? = _ from get_l (get_l (get_l (get_l (get_l (get_l (get_l (get_l (get_l (get_l (get_l (get_l (rfl)))))))))))))
set_option maxRecDepth 20000 in
theorem cc_4 {g : Gh} {h : Nat} {H : Heap} (hg : ∀ k, k < 79 → g.2.2 k = h + pm k) (hP : va_P g.1 vwCl ((h, eF_5 g (h + 1)) :: tl_5 g (h + 1)) H) : va_at g.1 vwCl (g.2.2 4, pic g mu0 4) H := by
  have e : pic g mu0 4 = .inl (g.2.1 0, 7, .inl (fun _ => 0)) := rfl
  have e4 : g.2.2 4 = h + 4 := hg 4 (by decide)
  rw [e, e4]
  exact hP 4 _ (show (tl_5 g (h + 1))[3]? = _ from get_l (get_l (get_l (get_l (get_l (get_l (get_l (get_l (get_l (get_l (get_l (get_l (rfl)))))))))))))
set_option maxRecDepth 20000 in
theorem cc_5 {g : Gh} {h : Nat} {H : Heap} (hg : ∀ k, k < 79 → g.2.2 k = h + pm k) (hP : va_P g.1 vwCl ((h, eF_5 g (h + 1)) :: tl_5 g (h + 1)) H) : va_at g.1 vwCl (g.2.2 5, pic g mu0 5) H := by
  have e : pic g mu0 5 = .inl (g.2.1 0, 7, .inl (fun _ => 0)) := rfl
  have e5 : g.2.2 5 = h + 5 := hg 5 (by decide)
  rw [e, e5]
  exact hP 5 _ (show (tl_5 g (h + 1))[4]? = _ from get_l (get_l (get_l (get_l (get_l (get_l (get_l (get_l (get_l (get_l (get_l (get_l (rfl)))))))))))))
set_option maxRecDepth 20000 in
theorem cc_6 {g : Gh} {h : Nat} {H : Heap} (hg : ∀ k, k < 79 → g.2.2 k = h + pm k) (hP : va_P g.1 vwCl ((h, eF_5 g (h + 1)) :: tl_5 g (h + 1)) H) : va_at g.1 vwCl (g.2.2 6, pic g mu0 6) H := by
  have e : pic g mu0 6 = .inl (g.2.1 0, 7, .inl (fun _ => 0)) := rfl
  have e6 : g.2.2 6 = h + 6 := hg 6 (by decide)
  rw [e, e6]
  exact hP 6 _ (show (tl_5 g (h + 1))[5]? = _ from get_l (get_l (get_l (get_l (get_l (get_l (get_l (get_l (get_l (get_l (get_l (get_l (rfl)))))))))))))
set_option maxRecDepth 20000 in
theorem cc_7 {g : Gh} {h : Nat} {H : Heap} (hg : ∀ k, k < 79 → g.2.2 k = h + pm k) (hP : va_P g.1 vwCl ((h, eF_5 g (h + 1)) :: tl_5 g (h + 1)) H) : va_at g.1 vwCl (g.2.2 7, pic g mu0 7) H := by
  have e : pic g mu0 7 = .inl (g.2.1 0, 7, .inl (fun _ => 0)) := rfl
  have e7 : g.2.2 7 = h + 7 := hg 7 (by decide)
  rw [e, e7]
  exact hP 7 _ (show (tl_5 g (h + 1))[6]? = _ from get_l (get_l (get_l (get_l (get_l (get_l (get_l (get_l (get_l (get_l (get_l (get_l (rfl)))))))))))))
set_option maxRecDepth 20000 in
theorem cc_8 {g : Gh} {h : Nat} {H : Heap} (hg : ∀ k, k < 79 → g.2.2 k = h + pm k) (hP : va_P g.1 vwCl ((h, eF_5 g (h + 1)) :: tl_5 g (h + 1)) H) : va_at g.1 vwCl (g.2.2 8, pic g mu0 8) H := by
  have e : pic g mu0 8 = .inr (1, [.ref (g.2.2 9), .int 0, .int (-4), .int 0, .int 0, .int 0, .int 0]) := rfl
  have e8 : g.2.2 8 = h + 8 := hg 8 (by decide)
  have e9 : g.2.2 9 = h + 9 := hg 9 (by decide)
  rw [e, e8, e9]
  exact hP 8 _ (show (tl_5 g (h + 1))[7]? = _ from get_l (get_l (get_l (get_l (get_l (get_l (get_l (get_l (get_l (get_l (get_l (get_o (n := 7) (i := 0) (by simp [wA_len, wP_len, tl_0, tl_1, tl_2, tl_3, tl_4, mxW]) rfl))))))))))))
set_option maxRecDepth 20000 in
theorem cc_9 {g : Gh} {h : Nat} {H : Heap} (hg : ∀ k, k < 79 → g.2.2 k = h + pm k) (hP : va_P g.1 vwCl ((h, eF_5 g (h + 1)) :: tl_5 g (h + 1)) H) : va_at g.1 vwCl (g.2.2 9, pic g mu0 9) H := by
  have e : pic g mu0 9 = .inl (g.2.1 5, 5, .inr (.inr (.inr (.inr (rarr g.2.2 mu0 9))))) := rfl
  have e9 : g.2.2 9 = h + 9 := hg 9 (by decide)
  rw [e, e9]
  have q : H[h + 9]? = some (vp_cell (g.2.1 5) (5, .inr (.inr (.inr (.inr (fun j => some (h + 9 + 1 + j))))))) := hP 9 _ (show (tl_5 g (h + 1))[8]? = _ from get_l (get_l (get_l (get_l (get_l (get_l (get_l (get_l (get_l (get_l (get_l (get_o (n := 7) (i := 1) (by simp [wA_len, wP_len, tl_0, tl_1, tl_2, tl_3, tl_4, mxW]) rfl))))))))))))
  show H[h + 9]? = some (vp_cell (g.2.1 5) (5, .inr (.inr (.inr (.inr (rarr g.2.2 mu0 9))))))
  rw [q]
  refine congrArg some (vq_cg _ (fun j hj => ?_))
  rcases (show j = 0 ∨ j = 1 ∨ j = 2 ∨ j = 3 ∨ j = 4 by omega) with rfl | rfl | rfl | rfl | rfl
  · exact congrArg some (hg 10 (by decide)).symm
  · exact congrArg some (hg 11 (by decide)).symm
  · exact congrArg some (hg 12 (by decide)).symm
  · exact congrArg some (hg 13 (by decide)).symm
  · exact congrArg some (hg 14 (by decide)).symm
set_option maxRecDepth 20000 in
theorem cc_10 {g : Gh} {h : Nat} {H : Heap} (hg : ∀ k, k < 79 → g.2.2 k = h + pm k) (hP : va_P g.1 vwCl ((h, eF_5 g (h + 1)) :: tl_5 g (h + 1)) H) : va_at g.1 vwCl (g.2.2 10, pic g mu0 10) H := by
  have e : pic g mu0 10 = .inl (g.2.1 0, 7, .inl (fun _ => 0)) := rfl
  have e10 : g.2.2 10 = h + 10 := hg 10 (by decide)
  rw [e, e10]
  exact hP 10 _ (show (tl_5 g (h + 1))[9]? = _ from get_l (get_l (get_l (get_l (get_l (get_l (get_l (get_l (get_l (get_l (get_l (get_o (n := 7) (i := 2) (by simp [wA_len, wP_len, tl_0, tl_1, tl_2, tl_3, tl_4, mxW]) rfl))))))))))))
set_option maxRecDepth 20000 in
theorem cc_11 {g : Gh} {h : Nat} {H : Heap} (hg : ∀ k, k < 79 → g.2.2 k = h + pm k) (hP : va_P g.1 vwCl ((h, eF_5 g (h + 1)) :: tl_5 g (h + 1)) H) : va_at g.1 vwCl (g.2.2 11, pic g mu0 11) H := by
  have e : pic g mu0 11 = .inl (g.2.1 0, 7, .inl (fun _ => 0)) := rfl
  have e11 : g.2.2 11 = h + 11 := hg 11 (by decide)
  rw [e, e11]
  exact hP 11 _ (show (tl_5 g (h + 1))[10]? = _ from get_l (get_l (get_l (get_l (get_l (get_l (get_l (get_l (get_l (get_l (get_l (get_o (n := 7) (i := 3) (by simp [wA_len, wP_len, tl_0, tl_1, tl_2, tl_3, tl_4, mxW]) rfl))))))))))))
set_option maxRecDepth 20000 in
theorem cc_12 {g : Gh} {h : Nat} {H : Heap} (hg : ∀ k, k < 79 → g.2.2 k = h + pm k) (hP : va_P g.1 vwCl ((h, eF_5 g (h + 1)) :: tl_5 g (h + 1)) H) : va_at g.1 vwCl (g.2.2 12, pic g mu0 12) H := by
  have e : pic g mu0 12 = .inl (g.2.1 0, 7, .inl (fun _ => 0)) := rfl
  have e12 : g.2.2 12 = h + 12 := hg 12 (by decide)
  rw [e, e12]
  exact hP 12 _ (show (tl_5 g (h + 1))[11]? = _ from get_l (get_l (get_l (get_l (get_l (get_l (get_l (get_l (get_l (get_l (get_l (get_o (n := 7) (i := 4) (by simp [wA_len, wP_len, tl_0, tl_1, tl_2, tl_3, tl_4, mxW]) rfl))))))))))))
set_option maxRecDepth 20000 in
theorem cc_13 {g : Gh} {h : Nat} {H : Heap} (hg : ∀ k, k < 79 → g.2.2 k = h + pm k) (hP : va_P g.1 vwCl ((h, eF_5 g (h + 1)) :: tl_5 g (h + 1)) H) : va_at g.1 vwCl (g.2.2 13, pic g mu0 13) H := by
  have e : pic g mu0 13 = .inl (g.2.1 0, 7, .inl (fun _ => 0)) := rfl
  have e13 : g.2.2 13 = h + 13 := hg 13 (by decide)
  rw [e, e13]
  exact hP 13 _ (show (tl_5 g (h + 1))[12]? = _ from get_l (get_l (get_l (get_l (get_l (get_l (get_l (get_l (get_l (get_l (get_l (get_o (n := 7) (i := 5) (by simp [wA_len, wP_len, tl_0, tl_1, tl_2, tl_3, tl_4, mxW]) rfl))))))))))))
set_option maxRecDepth 20000 in
theorem cc_14 {g : Gh} {h : Nat} {H : Heap} (hg : ∀ k, k < 79 → g.2.2 k = h + pm k) (hP : va_P g.1 vwCl ((h, eF_5 g (h + 1)) :: tl_5 g (h + 1)) H) : va_at g.1 vwCl (g.2.2 14, pic g mu0 14) H := by
  have e : pic g mu0 14 = .inl (g.2.1 0, 7, .inl (fun _ => 0)) := rfl
  have e14 : g.2.2 14 = h + 14 := hg 14 (by decide)
  rw [e, e14]
  exact hP 14 _ (show (tl_5 g (h + 1))[13]? = _ from get_l (get_l (get_l (get_l (get_l (get_l (get_l (get_l (get_l (get_l (get_l (get_o (n := 7) (i := 6) (by simp [wA_len, wP_len, tl_0, tl_1, tl_2, tl_3, tl_4, mxW]) rfl))))))))))))
set_option maxRecDepth 20000 in
theorem cc_15 {g : Gh} {h : Nat} {H : Heap} (hg : ∀ k, k < 79 → g.2.2 k = h + pm k) (hP : va_P g.1 vwCl ((h, eF_5 g (h + 1)) :: tl_5 g (h + 1)) H) : va_at g.1 vwCl (g.2.2 15, pic g mu0 15) H := by
  have e : pic g mu0 15 = .inr (2, [.ref (g.2.2 16), .ref (g.2.2 17), .ref (g.2.2 18), .int 0]) := rfl
  have e15 : g.2.2 15 = h + 15 := hg 15 (by decide)
  have e16 : g.2.2 16 = h + 16 := hg 16 (by decide)
  have e17 : g.2.2 17 = h + 17 := hg 17 (by decide)
  have e18 : g.2.2 18 = h + 18 := hg 18 (by decide)
  rw [e, e15, e16, e17, e18]
  exact hP 15 _ (show (tl_5 g (h + 1))[14]? = _ from get_l (get_l (get_l (get_l (get_l (get_l (get_l (get_l (get_l (get_l (get_o (n := 14) (i := 0) (by simp [wA_len, wP_len, tl_0, tl_1, tl_2, tl_3, tl_4, mxW]) rfl)))))))))))
set_option maxRecDepth 20000 in
theorem cc_16 {g : Gh} {h : Nat} {H : Heap} (hg : ∀ k, k < 79 → g.2.2 k = h + pm k) (hP : va_P g.1 vwCl ((h, eF_5 g (h + 1)) :: tl_5 g (h + 1)) H) : va_at g.1 vwCl (g.2.2 16, pic g mu0 16) H := by
  have e : pic g mu0 16 = .inl (g.2.1 0, 6, .inl (fun _ => 0)) := rfl
  have e16 : g.2.2 16 = h + 16 := hg 16 (by decide)
  rw [e, e16]
  exact hP 16 _ (show (tl_5 g (h + 1))[15]? = _ from get_l (get_l (get_l (get_l (get_l (get_l (get_l (get_l (get_l (get_l (get_o (n := 14) (i := 1) (by simp [wA_len, wP_len, tl_0, tl_1, tl_2, tl_3, tl_4, mxW]) rfl)))))))))))
set_option maxRecDepth 20000 in
theorem cc_17 {g : Gh} {h : Nat} {H : Heap} (hg : ∀ k, k < 79 → g.2.2 k = h + pm k) (hP : va_P g.1 vwCl ((h, eF_5 g (h + 1)) :: tl_5 g (h + 1)) H) : va_at g.1 vwCl (g.2.2 17, pic g mu0 17) H := by
  have e : pic g mu0 17 = .inl (g.2.1 0, 6, .inl (fun _ => 0)) := rfl
  have e17 : g.2.2 17 = h + 17 := hg 17 (by decide)
  rw [e, e17]
  exact hP 17 _ (show (tl_5 g (h + 1))[16]? = _ from get_l (get_l (get_l (get_l (get_l (get_l (get_l (get_l (get_l (get_l (get_o (n := 14) (i := 2) (by simp [wA_len, wP_len, tl_0, tl_1, tl_2, tl_3, tl_4, mxW]) rfl)))))))))))
set_option maxRecDepth 20000 in
theorem cc_18 {g : Gh} {h : Nat} {H : Heap} (hg : ∀ k, k < 79 → g.2.2 k = h + pm k) (hP : va_P g.1 vwCl ((h, eF_5 g (h + 1)) :: tl_5 g (h + 1)) H) : va_at g.1 vwCl (g.2.2 18, pic g mu0 18) H := by
  have e : pic g mu0 18 = .inl (g.2.1 0, 6, .inl (fun _ => 0)) := rfl
  have e18 : g.2.2 18 = h + 18 := hg 18 (by decide)
  rw [e, e18]
  exact hP 18 _ (show (tl_5 g (h + 1))[17]? = _ from get_l (get_l (get_l (get_l (get_l (get_l (get_l (get_l (get_l (get_l (get_o (n := 14) (i := 3) (by simp [wA_len, wP_len, tl_0, tl_1, tl_2, tl_3, tl_4, mxW]) rfl)))))))))))
set_option maxRecDepth 20000 in
theorem cc_19 {g : Gh} {h : Nat} {H : Heap} (hg : ∀ k, k < 79 → g.2.2 k = h + pm k) (hP : va_P g.1 vwCl ((h, eF_5 g (h + 1)) :: tl_5 g (h + 1)) H) : va_at g.1 vwCl (g.2.2 19, pic g mu0 19) H := by
  have e : pic g mu0 19 = .inr (4, [.ref (g.2.2 20), .int 0, .int 0, .int 0, .int 0, .int 0, .int 0]) := rfl
  have e19 : g.2.2 19 = h + 19 := hg 19 (by decide)
  have e20 : g.2.2 20 = h + 20 := hg 20 (by decide)
  rw [e, e19, e20]
  exact hP 19 _ (show (tl_5 g (h + 1))[18]? = _ from get_l (get_l (get_l (get_l (get_l (get_l (get_l (get_l (get_l (get_o (n := 18) (i := 0) (by simp [wA_len, wP_len, tl_0, tl_1, tl_2, tl_3, tl_4, mxW]) rfl))))))))))
set_option maxRecDepth 20000 in
theorem cc_20 {g : Gh} {h : Nat} {H : Heap} (hg : ∀ k, k < 79 → g.2.2 k = h + pm k) (hP : va_P g.1 vwCl ((h, eF_5 g (h + 1)) :: tl_5 g (h + 1)) H) : va_at g.1 vwCl (g.2.2 20, pic g mu0 20) H := by
  have e : pic g mu0 20 = .inl (g.2.1 1, 160, .inl (fun _ => 0)) := rfl
  have e20 : g.2.2 20 = h + 20 := hg 20 (by decide)
  rw [e, e20]
  exact hP 20 _ (show (tl_5 g (h + 1))[19]? = _ from get_l (get_l (get_l (get_l (get_l (get_l (get_l (get_l (get_l (get_o (n := 18) (i := 1) (by simp [wA_len, wP_len, tl_0, tl_1, tl_2, tl_3, tl_4, mxW]) rfl))))))))))
set_option maxRecDepth 20000 in
theorem cc_21 {g : Gh} {h : Nat} {H : Heap} (hg : ∀ k, k < 79 → g.2.2 k = h + pm k) (hP : va_P g.1 vwCl ((h, eF_5 g (h + 1)) :: tl_5 g (h + 1)) H) : va_at g.1 vwCl (g.2.2 21, pic g mu0 21) H := by
  have e : pic g mu0 21 = .inl (g.2.1 3, 2, .inr (.inr (.inr (.inr (rarr g.2.2 mu0 21))))) := rfl
  have e21 : g.2.2 21 = h + 21 := hg 21 (by decide)
  rw [e, e21]
  have q : H[h + 21]? = some (vp_cell (g.2.1 3) (2, .inr (.inr (.inr (.inr (va_up (va_up (fun _ => none) 0 (some (h + 1 + 33))) 1 (some (h + 1 + 45)))))))) := hP 21 _ (show (tl_5 g (h + 1))[20]? = _ from get_l (get_l (get_l (get_l (get_l (get_l (get_l (get_l (get_o (n := 20) (i := 0) (by simp [wA_len, wP_len, tl_0, tl_1, tl_2, tl_3, tl_4, mxW]) rfl)))))))))
  show H[h + 21]? = some (vp_cell (g.2.1 3) (2, .inr (.inr (.inr (.inr (rarr g.2.2 mu0 21))))))
  rw [q]
  refine congrArg some (vq_cg _ (fun j hj => ?_))
  rcases (show j = 0 ∨ j = 1 by omega) with rfl | rfl
  · exact congrArg some (hg 22 (by decide)).symm
  · exact congrArg some (hg 34 (by decide)).symm
set_option maxRecDepth 20000 in
theorem cc_22 {g : Gh} {h : Nat} {H : Heap} (hg : ∀ k, k < 79 → g.2.2 k = h + pm k) (hP : va_P g.1 vwCl ((h, eF_5 g (h + 1)) :: tl_5 g (h + 1)) H) : va_at g.1 vwCl (g.2.2 22, pic g mu0 22) H := by
  have e : pic g mu0 22 = .inr (0, [.ref (g.2.2 23), .ref (g.2.2 30), .int 0]) := rfl
  have e22 : g.2.2 22 = h + 34 := hg 22 (by decide)
  have e23 : g.2.2 23 = h + 35 := hg 23 (by decide)
  have e30 : g.2.2 30 = h + 42 := hg 30 (by decide)
  rw [e, e22, e23, e30]
  exact hP 34 _ (show (tl_5 g (h + 1))[33]? = _ from get_l (get_l (get_l (get_l (get_l (get_o (n := 33) (i := 0) (by simp [wA_len, wP_len, tl_0, tl_1, tl_2, tl_3, tl_4, mxW]) rfl))))))
set_option maxRecDepth 20000 in
theorem cc_23 {g : Gh} {h : Nat} {H : Heap} (hg : ∀ k, k < 79 → g.2.2 k = h + pm k) (hP : va_P g.1 vwCl ((h, eF_5 g (h + 1)) :: tl_5 g (h + 1)) H) : va_at g.1 vwCl (g.2.2 23, pic g mu0 23) H := by
  have e : pic g mu0 23 = .inr (1, [.ref (g.2.2 24), .int 0, .int (-4), .int 0, .int 0, .int 0, .int 0]) := rfl
  have e23 : g.2.2 23 = h + 35 := hg 23 (by decide)
  have e24 : g.2.2 24 = h + 36 := hg 24 (by decide)
  rw [e, e23, e24]
  exact hP 35 _ (show (tl_5 g (h + 1))[34]? = _ from get_l (get_l (get_l (get_l (get_l (get_o (n := 33) (i := 1) (by simp [wA_len, wP_len, tl_0, tl_1, tl_2, tl_3, tl_4, mxW]) rfl))))))
set_option maxRecDepth 20000 in
theorem cc_24 {g : Gh} {h : Nat} {H : Heap} (hg : ∀ k, k < 79 → g.2.2 k = h + pm k) (hP : va_P g.1 vwCl ((h, eF_5 g (h + 1)) :: tl_5 g (h + 1)) H) : va_at g.1 vwCl (g.2.2 24, pic g mu0 24) H := by
  have e : pic g mu0 24 = .inl (g.2.1 5, 5, .inr (.inr (.inr (.inr (rarr g.2.2 mu0 24))))) := rfl
  have e24 : g.2.2 24 = h + 36 := hg 24 (by decide)
  rw [e, e24]
  have q : H[h + 36]? = some (vp_cell (g.2.1 5) (5, .inr (.inr (.inr (.inr (fun j => some (h + 36 + 1 + j))))))) := hP 36 _ (show (tl_5 g (h + 1))[35]? = _ from get_l (get_l (get_l (get_l (get_l (get_o (n := 33) (i := 2) (by simp [wA_len, wP_len, tl_0, tl_1, tl_2, tl_3, tl_4, mxW]) rfl))))))
  show H[h + 36]? = some (vp_cell (g.2.1 5) (5, .inr (.inr (.inr (.inr (rarr g.2.2 mu0 24))))))
  rw [q]
  refine congrArg some (vq_cg _ (fun j hj => ?_))
  rcases (show j = 0 ∨ j = 1 ∨ j = 2 ∨ j = 3 ∨ j = 4 by omega) with rfl | rfl | rfl | rfl | rfl
  · exact congrArg some (hg 25 (by decide)).symm
  · exact congrArg some (hg 26 (by decide)).symm
  · exact congrArg some (hg 27 (by decide)).symm
  · exact congrArg some (hg 28 (by decide)).symm
  · exact congrArg some (hg 29 (by decide)).symm
set_option maxRecDepth 20000 in
theorem cc_25 {g : Gh} {h : Nat} {H : Heap} (hg : ∀ k, k < 79 → g.2.2 k = h + pm k) (hP : va_P g.1 vwCl ((h, eF_5 g (h + 1)) :: tl_5 g (h + 1)) H) : va_at g.1 vwCl (g.2.2 25, pic g mu0 25) H := by
  have e : pic g mu0 25 = .inl (g.2.1 0, 7, .inl (fun _ => 0)) := rfl
  have e25 : g.2.2 25 = h + 37 := hg 25 (by decide)
  rw [e, e25]
  exact hP 37 _ (show (tl_5 g (h + 1))[36]? = _ from get_l (get_l (get_l (get_l (get_l (get_o (n := 33) (i := 3) (by simp [wA_len, wP_len, tl_0, tl_1, tl_2, tl_3, tl_4, mxW]) rfl))))))
set_option maxRecDepth 20000 in
theorem cc_26 {g : Gh} {h : Nat} {H : Heap} (hg : ∀ k, k < 79 → g.2.2 k = h + pm k) (hP : va_P g.1 vwCl ((h, eF_5 g (h + 1)) :: tl_5 g (h + 1)) H) : va_at g.1 vwCl (g.2.2 26, pic g mu0 26) H := by
  have e : pic g mu0 26 = .inl (g.2.1 0, 7, .inl (fun _ => 0)) := rfl
  have e26 : g.2.2 26 = h + 38 := hg 26 (by decide)
  rw [e, e26]
  exact hP 38 _ (show (tl_5 g (h + 1))[37]? = _ from get_l (get_l (get_l (get_l (get_l (get_o (n := 33) (i := 4) (by simp [wA_len, wP_len, tl_0, tl_1, tl_2, tl_3, tl_4, mxW]) rfl))))))
set_option maxRecDepth 20000 in
theorem cc_27 {g : Gh} {h : Nat} {H : Heap} (hg : ∀ k, k < 79 → g.2.2 k = h + pm k) (hP : va_P g.1 vwCl ((h, eF_5 g (h + 1)) :: tl_5 g (h + 1)) H) : va_at g.1 vwCl (g.2.2 27, pic g mu0 27) H := by
  have e : pic g mu0 27 = .inl (g.2.1 0, 7, .inl (fun _ => 0)) := rfl
  have e27 : g.2.2 27 = h + 39 := hg 27 (by decide)
  rw [e, e27]
  exact hP 39 _ (show (tl_5 g (h + 1))[38]? = _ from get_l (get_l (get_l (get_l (get_l (get_o (n := 33) (i := 5) (by simp [wA_len, wP_len, tl_0, tl_1, tl_2, tl_3, tl_4, mxW]) rfl))))))
set_option maxRecDepth 20000 in
theorem cc_28 {g : Gh} {h : Nat} {H : Heap} (hg : ∀ k, k < 79 → g.2.2 k = h + pm k) (hP : va_P g.1 vwCl ((h, eF_5 g (h + 1)) :: tl_5 g (h + 1)) H) : va_at g.1 vwCl (g.2.2 28, pic g mu0 28) H := by
  have e : pic g mu0 28 = .inl (g.2.1 0, 7, .inl (fun _ => 0)) := rfl
  have e28 : g.2.2 28 = h + 40 := hg 28 (by decide)
  rw [e, e28]
  exact hP 40 _ (show (tl_5 g (h + 1))[39]? = _ from get_l (get_l (get_l (get_l (get_l (get_o (n := 33) (i := 6) (by simp [wA_len, wP_len, tl_0, tl_1, tl_2, tl_3, tl_4, mxW]) rfl))))))
set_option maxRecDepth 20000 in
theorem cc_29 {g : Gh} {h : Nat} {H : Heap} (hg : ∀ k, k < 79 → g.2.2 k = h + pm k) (hP : va_P g.1 vwCl ((h, eF_5 g (h + 1)) :: tl_5 g (h + 1)) H) : va_at g.1 vwCl (g.2.2 29, pic g mu0 29) H := by
  have e : pic g mu0 29 = .inl (g.2.1 0, 7, .inl (fun _ => 0)) := rfl
  have e29 : g.2.2 29 = h + 41 := hg 29 (by decide)
  rw [e, e29]
  exact hP 41 _ (show (tl_5 g (h + 1))[40]? = _ from get_l (get_l (get_l (get_l (get_l (get_o (n := 33) (i := 7) (by simp [wA_len, wP_len, tl_0, tl_1, tl_2, tl_3, tl_4, mxW]) rfl))))))
set_option maxRecDepth 20000 in
theorem cc_30 {g : Gh} {h : Nat} {H : Heap} (hg : ∀ k, k < 79 → g.2.2 k = h + pm k) (hP : va_P g.1 vwCl ((h, eF_5 g (h + 1)) :: tl_5 g (h + 1)) H) : va_at g.1 vwCl (g.2.2 30, pic g mu0 30) H := by
  have e : pic g mu0 30 = .inr (2, [.ref (g.2.2 31), .ref (g.2.2 32), .ref (g.2.2 33), .int 0]) := rfl
  have e30 : g.2.2 30 = h + 42 := hg 30 (by decide)
  have e31 : g.2.2 31 = h + 43 := hg 31 (by decide)
  have e32 : g.2.2 32 = h + 44 := hg 32 (by decide)
  have e33 : g.2.2 33 = h + 45 := hg 33 (by decide)
  rw [e, e30, e31, e32, e33]
  exact hP 42 _ (show (tl_5 g (h + 1))[41]? = _ from get_l (get_l (get_l (get_l (get_l (get_o (n := 33) (i := 8) (by simp [wA_len, wP_len, tl_0, tl_1, tl_2, tl_3, tl_4, mxW]) rfl))))))
set_option maxRecDepth 20000 in
theorem cc_31 {g : Gh} {h : Nat} {H : Heap} (hg : ∀ k, k < 79 → g.2.2 k = h + pm k) (hP : va_P g.1 vwCl ((h, eF_5 g (h + 1)) :: tl_5 g (h + 1)) H) : va_at g.1 vwCl (g.2.2 31, pic g mu0 31) H := by
  have e : pic g mu0 31 = .inl (g.2.1 0, 6, .inl (fun _ => 0)) := rfl
  have e31 : g.2.2 31 = h + 43 := hg 31 (by decide)
  rw [e, e31]
  exact hP 43 _ (show (tl_5 g (h + 1))[42]? = _ from get_l (get_l (get_l (get_l (get_l (get_o (n := 33) (i := 9) (by simp [wA_len, wP_len, tl_0, tl_1, tl_2, tl_3, tl_4, mxW]) rfl))))))
set_option maxRecDepth 20000 in
theorem cc_32 {g : Gh} {h : Nat} {H : Heap} (hg : ∀ k, k < 79 → g.2.2 k = h + pm k) (hP : va_P g.1 vwCl ((h, eF_5 g (h + 1)) :: tl_5 g (h + 1)) H) : va_at g.1 vwCl (g.2.2 32, pic g mu0 32) H := by
  have e : pic g mu0 32 = .inl (g.2.1 0, 6, .inl (fun _ => 0)) := rfl
  have e32 : g.2.2 32 = h + 44 := hg 32 (by decide)
  rw [e, e32]
  exact hP 44 _ (show (tl_5 g (h + 1))[43]? = _ from get_l (get_l (get_l (get_l (get_l (get_o (n := 33) (i := 10) (by simp [wA_len, wP_len, tl_0, tl_1, tl_2, tl_3, tl_4, mxW]) rfl))))))
set_option maxRecDepth 20000 in
theorem cc_33 {g : Gh} {h : Nat} {H : Heap} (hg : ∀ k, k < 79 → g.2.2 k = h + pm k) (hP : va_P g.1 vwCl ((h, eF_5 g (h + 1)) :: tl_5 g (h + 1)) H) : va_at g.1 vwCl (g.2.2 33, pic g mu0 33) H := by
  have e : pic g mu0 33 = .inl (g.2.1 0, 6, .inl (fun _ => 0)) := rfl
  have e33 : g.2.2 33 = h + 45 := hg 33 (by decide)
  rw [e, e33]
  exact hP 45 _ (show (tl_5 g (h + 1))[44]? = _ from get_l (get_l (get_l (get_l (get_l (get_o (n := 33) (i := 11) (by simp [wA_len, wP_len, tl_0, tl_1, tl_2, tl_3, tl_4, mxW]) rfl))))))
set_option maxRecDepth 20000 in
theorem cc_34 {g : Gh} {h : Nat} {H : Heap} (hg : ∀ k, k < 79 → g.2.2 k = h + pm k) (hP : va_P g.1 vwCl ((h, eF_5 g (h + 1)) :: tl_5 g (h + 1)) H) : va_at g.1 vwCl (g.2.2 34, pic g mu0 34) H := by
  have e : pic g mu0 34 = .inr (0, [.ref (g.2.2 35), .ref (g.2.2 42), .int 0]) := rfl
  have e34 : g.2.2 34 = h + 46 := hg 34 (by decide)
  have e35 : g.2.2 35 = h + 47 := hg 35 (by decide)
  have e42 : g.2.2 42 = h + 54 := hg 42 (by decide)
  rw [e, e34, e35, e42]
  exact hP 46 _ (show (tl_5 g (h + 1))[45]? = _ from get_l (get_l (get_l (get_l (get_o (n := 45) (i := 0) (by simp [wA_len, wP_len, tl_0, tl_1, tl_2, tl_3, tl_4, mxW]) rfl)))))
set_option maxRecDepth 20000 in
theorem cc_35 {g : Gh} {h : Nat} {H : Heap} (hg : ∀ k, k < 79 → g.2.2 k = h + pm k) (hP : va_P g.1 vwCl ((h, eF_5 g (h + 1)) :: tl_5 g (h + 1)) H) : va_at g.1 vwCl (g.2.2 35, pic g mu0 35) H := by
  have e : pic g mu0 35 = .inr (1, [.ref (g.2.2 36), .int 0, .int (-4), .int 0, .int 0, .int 0, .int 0]) := rfl
  have e35 : g.2.2 35 = h + 47 := hg 35 (by decide)
  have e36 : g.2.2 36 = h + 48 := hg 36 (by decide)
  rw [e, e35, e36]
  exact hP 47 _ (show (tl_5 g (h + 1))[46]? = _ from get_l (get_l (get_l (get_l (get_o (n := 45) (i := 1) (by simp [wA_len, wP_len, tl_0, tl_1, tl_2, tl_3, tl_4, mxW]) rfl)))))
set_option maxRecDepth 20000 in
theorem cc_36 {g : Gh} {h : Nat} {H : Heap} (hg : ∀ k, k < 79 → g.2.2 k = h + pm k) (hP : va_P g.1 vwCl ((h, eF_5 g (h + 1)) :: tl_5 g (h + 1)) H) : va_at g.1 vwCl (g.2.2 36, pic g mu0 36) H := by
  have e : pic g mu0 36 = .inl (g.2.1 5, 5, .inr (.inr (.inr (.inr (rarr g.2.2 mu0 36))))) := rfl
  have e36 : g.2.2 36 = h + 48 := hg 36 (by decide)
  rw [e, e36]
  have q : H[h + 48]? = some (vp_cell (g.2.1 5) (5, .inr (.inr (.inr (.inr (fun j => some (h + 48 + 1 + j))))))) := hP 48 _ (show (tl_5 g (h + 1))[47]? = _ from get_l (get_l (get_l (get_l (get_o (n := 45) (i := 2) (by simp [wA_len, wP_len, tl_0, tl_1, tl_2, tl_3, tl_4, mxW]) rfl)))))
  show H[h + 48]? = some (vp_cell (g.2.1 5) (5, .inr (.inr (.inr (.inr (rarr g.2.2 mu0 36))))))
  rw [q]
  refine congrArg some (vq_cg _ (fun j hj => ?_))
  rcases (show j = 0 ∨ j = 1 ∨ j = 2 ∨ j = 3 ∨ j = 4 by omega) with rfl | rfl | rfl | rfl | rfl
  · exact congrArg some (hg 37 (by decide)).symm
  · exact congrArg some (hg 38 (by decide)).symm
  · exact congrArg some (hg 39 (by decide)).symm
  · exact congrArg some (hg 40 (by decide)).symm
  · exact congrArg some (hg 41 (by decide)).symm
set_option maxRecDepth 20000 in
theorem cc_37 {g : Gh} {h : Nat} {H : Heap} (hg : ∀ k, k < 79 → g.2.2 k = h + pm k) (hP : va_P g.1 vwCl ((h, eF_5 g (h + 1)) :: tl_5 g (h + 1)) H) : va_at g.1 vwCl (g.2.2 37, pic g mu0 37) H := by
  have e : pic g mu0 37 = .inl (g.2.1 0, 7, .inl (fun _ => 0)) := rfl
  have e37 : g.2.2 37 = h + 49 := hg 37 (by decide)
  rw [e, e37]
  exact hP 49 _ (show (tl_5 g (h + 1))[48]? = _ from get_l (get_l (get_l (get_l (get_o (n := 45) (i := 3) (by simp [wA_len, wP_len, tl_0, tl_1, tl_2, tl_3, tl_4, mxW]) rfl)))))
set_option maxRecDepth 20000 in
theorem cc_38 {g : Gh} {h : Nat} {H : Heap} (hg : ∀ k, k < 79 → g.2.2 k = h + pm k) (hP : va_P g.1 vwCl ((h, eF_5 g (h + 1)) :: tl_5 g (h + 1)) H) : va_at g.1 vwCl (g.2.2 38, pic g mu0 38) H := by
  have e : pic g mu0 38 = .inl (g.2.1 0, 7, .inl (fun _ => 0)) := rfl
  have e38 : g.2.2 38 = h + 50 := hg 38 (by decide)
  rw [e, e38]
  exact hP 50 _ (show (tl_5 g (h + 1))[49]? = _ from get_l (get_l (get_l (get_l (get_o (n := 45) (i := 4) (by simp [wA_len, wP_len, tl_0, tl_1, tl_2, tl_3, tl_4, mxW]) rfl)))))
set_option maxRecDepth 20000 in
theorem cc_39 {g : Gh} {h : Nat} {H : Heap} (hg : ∀ k, k < 79 → g.2.2 k = h + pm k) (hP : va_P g.1 vwCl ((h, eF_5 g (h + 1)) :: tl_5 g (h + 1)) H) : va_at g.1 vwCl (g.2.2 39, pic g mu0 39) H := by
  have e : pic g mu0 39 = .inl (g.2.1 0, 7, .inl (fun _ => 0)) := rfl
  have e39 : g.2.2 39 = h + 51 := hg 39 (by decide)
  rw [e, e39]
  exact hP 51 _ (show (tl_5 g (h + 1))[50]? = _ from get_l (get_l (get_l (get_l (get_o (n := 45) (i := 5) (by simp [wA_len, wP_len, tl_0, tl_1, tl_2, tl_3, tl_4, mxW]) rfl)))))
set_option maxRecDepth 20000 in
theorem cc_40 {g : Gh} {h : Nat} {H : Heap} (hg : ∀ k, k < 79 → g.2.2 k = h + pm k) (hP : va_P g.1 vwCl ((h, eF_5 g (h + 1)) :: tl_5 g (h + 1)) H) : va_at g.1 vwCl (g.2.2 40, pic g mu0 40) H := by
  have e : pic g mu0 40 = .inl (g.2.1 0, 7, .inl (fun _ => 0)) := rfl
  have e40 : g.2.2 40 = h + 52 := hg 40 (by decide)
  rw [e, e40]
  exact hP 52 _ (show (tl_5 g (h + 1))[51]? = _ from get_l (get_l (get_l (get_l (get_o (n := 45) (i := 6) (by simp [wA_len, wP_len, tl_0, tl_1, tl_2, tl_3, tl_4, mxW]) rfl)))))
set_option maxRecDepth 20000 in
theorem cc_41 {g : Gh} {h : Nat} {H : Heap} (hg : ∀ k, k < 79 → g.2.2 k = h + pm k) (hP : va_P g.1 vwCl ((h, eF_5 g (h + 1)) :: tl_5 g (h + 1)) H) : va_at g.1 vwCl (g.2.2 41, pic g mu0 41) H := by
  have e : pic g mu0 41 = .inl (g.2.1 0, 7, .inl (fun _ => 0)) := rfl
  have e41 : g.2.2 41 = h + 53 := hg 41 (by decide)
  rw [e, e41]
  exact hP 53 _ (show (tl_5 g (h + 1))[52]? = _ from get_l (get_l (get_l (get_l (get_o (n := 45) (i := 7) (by simp [wA_len, wP_len, tl_0, tl_1, tl_2, tl_3, tl_4, mxW]) rfl)))))
set_option maxRecDepth 20000 in
theorem cc_42 {g : Gh} {h : Nat} {H : Heap} (hg : ∀ k, k < 79 → g.2.2 k = h + pm k) (hP : va_P g.1 vwCl ((h, eF_5 g (h + 1)) :: tl_5 g (h + 1)) H) : va_at g.1 vwCl (g.2.2 42, pic g mu0 42) H := by
  have e : pic g mu0 42 = .inr (2, [.ref (g.2.2 43), .ref (g.2.2 44), .ref (g.2.2 45), .int 0]) := rfl
  have e42 : g.2.2 42 = h + 54 := hg 42 (by decide)
  have e43 : g.2.2 43 = h + 55 := hg 43 (by decide)
  have e44 : g.2.2 44 = h + 56 := hg 44 (by decide)
  have e45 : g.2.2 45 = h + 57 := hg 45 (by decide)
  rw [e, e42, e43, e44, e45]
  exact hP 54 _ (show (tl_5 g (h + 1))[53]? = _ from get_l (get_l (get_l (get_l (get_o (n := 45) (i := 8) (by simp [wA_len, wP_len, tl_0, tl_1, tl_2, tl_3, tl_4, mxW]) rfl)))))
set_option maxRecDepth 20000 in
theorem cc_43 {g : Gh} {h : Nat} {H : Heap} (hg : ∀ k, k < 79 → g.2.2 k = h + pm k) (hP : va_P g.1 vwCl ((h, eF_5 g (h + 1)) :: tl_5 g (h + 1)) H) : va_at g.1 vwCl (g.2.2 43, pic g mu0 43) H := by
  have e : pic g mu0 43 = .inl (g.2.1 0, 6, .inl (fun _ => 0)) := rfl
  have e43 : g.2.2 43 = h + 55 := hg 43 (by decide)
  rw [e, e43]
  exact hP 55 _ (show (tl_5 g (h + 1))[54]? = _ from get_l (get_l (get_l (get_l (get_o (n := 45) (i := 9) (by simp [wA_len, wP_len, tl_0, tl_1, tl_2, tl_3, tl_4, mxW]) rfl)))))
set_option maxRecDepth 20000 in
theorem cc_44 {g : Gh} {h : Nat} {H : Heap} (hg : ∀ k, k < 79 → g.2.2 k = h + pm k) (hP : va_P g.1 vwCl ((h, eF_5 g (h + 1)) :: tl_5 g (h + 1)) H) : va_at g.1 vwCl (g.2.2 44, pic g mu0 44) H := by
  have e : pic g mu0 44 = .inl (g.2.1 0, 6, .inl (fun _ => 0)) := rfl
  have e44 : g.2.2 44 = h + 56 := hg 44 (by decide)
  rw [e, e44]
  exact hP 56 _ (show (tl_5 g (h + 1))[55]? = _ from get_l (get_l (get_l (get_l (get_o (n := 45) (i := 10) (by simp [wA_len, wP_len, tl_0, tl_1, tl_2, tl_3, tl_4, mxW]) rfl)))))
set_option maxRecDepth 20000 in
theorem cc_45 {g : Gh} {h : Nat} {H : Heap} (hg : ∀ k, k < 79 → g.2.2 k = h + pm k) (hP : va_P g.1 vwCl ((h, eF_5 g (h + 1)) :: tl_5 g (h + 1)) H) : va_at g.1 vwCl (g.2.2 45, pic g mu0 45) H := by
  have e : pic g mu0 45 = .inl (g.2.1 0, 6, .inl (fun _ => 0)) := rfl
  have e45 : g.2.2 45 = h + 57 := hg 45 (by decide)
  rw [e, e45]
  exact hP 57 _ (show (tl_5 g (h + 1))[56]? = _ from get_l (get_l (get_l (get_l (get_o (n := 45) (i := 11) (by simp [wA_len, wP_len, tl_0, tl_1, tl_2, tl_3, tl_4, mxW]) rfl)))))
set_option maxRecDepth 20000 in
theorem cc_46 {g : Gh} {h : Nat} {H : Heap} (hg : ∀ k, k < 79 → g.2.2 k = h + pm k) (hP : va_P g.1 vwCl ((h, eF_5 g (h + 1)) :: tl_5 g (h + 1)) H) : va_at g.1 vwCl (g.2.2 46, pic g mu0 46) H := by
  have e : pic g mu0 46 = .inl (g.2.1 4, 4, .inr (.inr (.inr (.inr (rarr g.2.2 mu0 46))))) := rfl
  have e46 : g.2.2 46 = h + 22 := hg 46 (by decide)
  rw [e, e46]
  have q : H[h + 22]? = some (vp_cell (g.2.1 4) (4, .inr (.inr (.inr (.inr (va_up (va_up (va_up (va_up (fun _ => none) 0 (some (h + 1 + 57))) 1 (some (h + 1 + 59))) 2 (some (h + 1 + 61))) 3 (some (h + 1 + 63)))))))) := hP 22 _ (show (tl_5 g (h + 1))[21]? = _ from get_l (get_l (get_l (get_l (get_l (get_l (get_l (get_o (n := 21) (i := 0) (by simp [wA_len, wP_len, tl_0, tl_1, tl_2, tl_3, tl_4, mxW]) rfl))))))))
  show H[h + 22]? = some (vp_cell (g.2.1 4) (4, .inr (.inr (.inr (.inr (rarr g.2.2 mu0 46))))))
  rw [q]
  refine congrArg some (vq_cg _ (fun j hj => ?_))
  rcases (show j = 0 ∨ j = 1 ∨ j = 2 ∨ j = 3 by omega) with rfl | rfl | rfl | rfl
  · exact congrArg some (hg 47 (by decide)).symm
  · exact congrArg some (hg 49 (by decide)).symm
  · exact congrArg some (hg 51 (by decide)).symm
  · exact congrArg some (hg 53 (by decide)).symm
set_option maxRecDepth 20000 in
theorem cc_47 {g : Gh} {h : Nat} {H : Heap} (hg : ∀ k, k < 79 → g.2.2 k = h + pm k) (hP : va_P g.1 vwCl ((h, eF_5 g (h + 1)) :: tl_5 g (h + 1)) H) : va_at g.1 vwCl (g.2.2 47, pic g mu0 47) H := by
  have e : pic g mu0 47 = .inr (3, [.ref (g.2.2 48), .int (-4), .int (-4)]) := rfl
  have e47 : g.2.2 47 = h + 58 := hg 47 (by decide)
  have e48 : g.2.2 48 = h + 59 := hg 48 (by decide)
  rw [e, e47, e48]
  exact hP 58 _ (show (tl_5 g (h + 1))[57]? = _ from get_l (get_l (get_l (get_o (n := 57) (i := 0) (by simp [wA_len, wP_len, tl_0, tl_1, tl_2, tl_3, tl_4, mxW]) rfl))))
set_option maxRecDepth 20000 in
theorem cc_48 {g : Gh} {h : Nat} {H : Heap} (hg : ∀ k, k < 79 → g.2.2 k = h + pm k) (hP : va_P g.1 vwCl ((h, eF_5 g (h + 1)) :: tl_5 g (h + 1)) H) : va_at g.1 vwCl (g.2.2 48, pic g mu0 48) H := by
  have e : pic g mu0 48 = .inl (g.2.1 0, 40, .inl (fun _ => 0)) := rfl
  have e48 : g.2.2 48 = h + 59 := hg 48 (by decide)
  rw [e, e48]
  exact hP 59 _ (show (tl_5 g (h + 1))[58]? = _ from get_l (get_l (get_l (get_o (n := 57) (i := 1) (by simp [wA_len, wP_len, tl_0, tl_1, tl_2, tl_3, tl_4, mxW]) rfl))))
set_option maxRecDepth 20000 in
theorem cc_49 {g : Gh} {h : Nat} {H : Heap} (hg : ∀ k, k < 79 → g.2.2 k = h + pm k) (hP : va_P g.1 vwCl ((h, eF_5 g (h + 1)) :: tl_5 g (h + 1)) H) : va_at g.1 vwCl (g.2.2 49, pic g mu0 49) H := by
  have e : pic g mu0 49 = .inr (3, [.ref (g.2.2 50), .int (-4), .int (-4)]) := rfl
  have e49 : g.2.2 49 = h + 60 := hg 49 (by decide)
  have e50 : g.2.2 50 = h + 61 := hg 50 (by decide)
  rw [e, e49, e50]
  exact hP 60 _ (show (tl_5 g (h + 1))[59]? = _ from get_l (get_l (get_o (n := 59) (i := 0) (by simp [wA_len, wP_len, tl_0, tl_1, tl_2, tl_3, tl_4, mxW]) rfl)))
set_option maxRecDepth 20000 in
theorem cc_50 {g : Gh} {h : Nat} {H : Heap} (hg : ∀ k, k < 79 → g.2.2 k = h + pm k) (hP : va_P g.1 vwCl ((h, eF_5 g (h + 1)) :: tl_5 g (h + 1)) H) : va_at g.1 vwCl (g.2.2 50, pic g mu0 50) H := by
  have e : pic g mu0 50 = .inl (g.2.1 0, 40, .inl (fun _ => 0)) := rfl
  have e50 : g.2.2 50 = h + 61 := hg 50 (by decide)
  rw [e, e50]
  exact hP 61 _ (show (tl_5 g (h + 1))[60]? = _ from get_l (get_l (get_o (n := 59) (i := 1) (by simp [wA_len, wP_len, tl_0, tl_1, tl_2, tl_3, tl_4, mxW]) rfl)))
set_option maxRecDepth 20000 in
theorem cc_51 {g : Gh} {h : Nat} {H : Heap} (hg : ∀ k, k < 79 → g.2.2 k = h + pm k) (hP : va_P g.1 vwCl ((h, eF_5 g (h + 1)) :: tl_5 g (h + 1)) H) : va_at g.1 vwCl (g.2.2 51, pic g mu0 51) H := by
  have e : pic g mu0 51 = .inr (3, [.ref (g.2.2 52), .int (-4), .int (-4)]) := rfl
  have e51 : g.2.2 51 = h + 62 := hg 51 (by decide)
  have e52 : g.2.2 52 = h + 63 := hg 52 (by decide)
  rw [e, e51, e52]
  exact hP 62 _ (show (tl_5 g (h + 1))[61]? = _ from get_l (get_o (n := 61) (i := 0) (by simp [wA_len, wP_len, tl_0, tl_1, tl_2, tl_3, tl_4, mxW]) rfl))
set_option maxRecDepth 20000 in
theorem cc_52 {g : Gh} {h : Nat} {H : Heap} (hg : ∀ k, k < 79 → g.2.2 k = h + pm k) (hP : va_P g.1 vwCl ((h, eF_5 g (h + 1)) :: tl_5 g (h + 1)) H) : va_at g.1 vwCl (g.2.2 52, pic g mu0 52) H := by
  have e : pic g mu0 52 = .inl (g.2.1 0, 40, .inl (fun _ => 0)) := rfl
  have e52 : g.2.2 52 = h + 63 := hg 52 (by decide)
  rw [e, e52]
  exact hP 63 _ (show (tl_5 g (h + 1))[62]? = _ from get_l (get_o (n := 61) (i := 1) (by simp [wA_len, wP_len, tl_0, tl_1, tl_2, tl_3, tl_4, mxW]) rfl))
set_option maxRecDepth 20000 in
theorem cc_53 {g : Gh} {h : Nat} {H : Heap} (hg : ∀ k, k < 79 → g.2.2 k = h + pm k) (hP : va_P g.1 vwCl ((h, eF_5 g (h + 1)) :: tl_5 g (h + 1)) H) : va_at g.1 vwCl (g.2.2 53, pic g mu0 53) H := by
  have e : pic g mu0 53 = .inr (3, [.ref (g.2.2 54), .int (-4), .int (-4)]) := rfl
  have e53 : g.2.2 53 = h + 64 := hg 53 (by decide)
  have e54 : g.2.2 54 = h + 65 := hg 54 (by decide)
  rw [e, e53, e54]
  exact hP 64 _ (show (tl_5 g (h + 1))[63]? = _ from get_o (n := 63) (i := 0) (by simp [wA_len, wP_len, tl_0, tl_1, tl_2, tl_3, tl_4, mxW]) rfl)
set_option maxRecDepth 20000 in
theorem cc_54 {g : Gh} {h : Nat} {H : Heap} (hg : ∀ k, k < 79 → g.2.2 k = h + pm k) (hP : va_P g.1 vwCl ((h, eF_5 g (h + 1)) :: tl_5 g (h + 1)) H) : va_at g.1 vwCl (g.2.2 54, pic g mu0 54) H := by
  have e : pic g mu0 54 = .inl (g.2.1 0, 40, .inl (fun _ => 0)) := rfl
  have e54 : g.2.2 54 = h + 65 := hg 54 (by decide)
  rw [e, e54]
  exact hP 65 _ (show (tl_5 g (h + 1))[64]? = _ from get_o (n := 63) (i := 1) (by simp [wA_len, wP_len, tl_0, tl_1, tl_2, tl_3, tl_4, mxW]) rfl)
set_option maxRecDepth 20000 in
theorem cc_55 {g : Gh} {h : Nat} {H : Heap} (hg : ∀ k, k < 79 → g.2.2 k = h + pm k) (hP : va_P g.1 vwCl ((h, eF_5 g (h + 1)) :: tl_5 g (h + 1)) H) : va_at g.1 vwCl (g.2.2 55, pic g mu0 55) H := by
  have e : pic g mu0 55 = .inl (g.2.1 5, 10, .inr (.inr (.inr (.inr (rarr g.2.2 mu0 55))))) := rfl
  have e55 : g.2.2 55 = h + 23 := hg 55 (by decide)
  rw [e, e55]
  have q : H[h + 23]? = some (vp_cell (g.2.1 5) (10, .inr (.inr (.inr (.inr (fun j => some (h + 23 + 1 + j))))))) := hP 23 _ (show (tl_5 g (h + 1))[22]? = _ from get_l (get_l (get_l (get_l (get_l (get_l (get_o (n := 22) (i := 0) (by simp [wA_len, wP_len, tl_0, tl_1, tl_2, tl_3, tl_4, mxW]) rfl)))))))
  show H[h + 23]? = some (vp_cell (g.2.1 5) (10, .inr (.inr (.inr (.inr (rarr g.2.2 mu0 55))))))
  rw [q]
  refine congrArg some (vq_cg _ (fun j hj => ?_))
  rcases (show j = 0 ∨ j = 1 ∨ j = 2 ∨ j = 3 ∨ j = 4 ∨ j = 5 ∨ j = 6 ∨ j = 7 ∨ j = 8 ∨ j = 9 by omega) with rfl | rfl | rfl | rfl | rfl | rfl | rfl | rfl | rfl | rfl
  · exact congrArg some (hg 56 (by decide)).symm
  · exact congrArg some (hg 57 (by decide)).symm
  · exact congrArg some (hg 58 (by decide)).symm
  · exact congrArg some (hg 59 (by decide)).symm
  · exact congrArg some (hg 60 (by decide)).symm
  · exact congrArg some (hg 61 (by decide)).symm
  · exact congrArg some (hg 62 (by decide)).symm
  · exact congrArg some (hg 63 (by decide)).symm
  · exact congrArg some (hg 64 (by decide)).symm
  · exact congrArg some (hg 65 (by decide)).symm
set_option maxRecDepth 20000 in
theorem cc_56 {g : Gh} {h : Nat} {H : Heap} (hg : ∀ k, k < 79 → g.2.2 k = h + pm k) (hP : va_P g.1 vwCl ((h, eF_5 g (h + 1)) :: tl_5 g (h + 1)) H) : va_at g.1 vwCl (g.2.2 56, pic g mu0 56) H := by
  have e : pic g mu0 56 = .inl (g.2.1 0, 41, .inl (fun _ => 0)) := rfl
  have e56 : g.2.2 56 = h + 24 := hg 56 (by decide)
  rw [e, e56]
  exact hP 24 _ (show (tl_5 g (h + 1))[23]? = _ from get_l (get_l (get_l (get_l (get_l (get_l (get_o (n := 22) (i := 1) (by simp [wA_len, wP_len, tl_0, tl_1, tl_2, tl_3, tl_4, mxW]) rfl)))))))
set_option maxRecDepth 20000 in
theorem cc_57 {g : Gh} {h : Nat} {H : Heap} (hg : ∀ k, k < 79 → g.2.2 k = h + pm k) (hP : va_P g.1 vwCl ((h, eF_5 g (h + 1)) :: tl_5 g (h + 1)) H) : va_at g.1 vwCl (g.2.2 57, pic g mu0 57) H := by
  have e : pic g mu0 57 = .inl (g.2.1 0, 41, .inl (fun _ => 0)) := rfl
  have e57 : g.2.2 57 = h + 25 := hg 57 (by decide)
  rw [e, e57]
  exact hP 25 _ (show (tl_5 g (h + 1))[24]? = _ from get_l (get_l (get_l (get_l (get_l (get_l (get_o (n := 22) (i := 2) (by simp [wA_len, wP_len, tl_0, tl_1, tl_2, tl_3, tl_4, mxW]) rfl)))))))
set_option maxRecDepth 20000 in
theorem cc_58 {g : Gh} {h : Nat} {H : Heap} (hg : ∀ k, k < 79 → g.2.2 k = h + pm k) (hP : va_P g.1 vwCl ((h, eF_5 g (h + 1)) :: tl_5 g (h + 1)) H) : va_at g.1 vwCl (g.2.2 58, pic g mu0 58) H := by
  have e : pic g mu0 58 = .inl (g.2.1 0, 41, .inl (fun _ => 0)) := rfl
  have e58 : g.2.2 58 = h + 26 := hg 58 (by decide)
  rw [e, e58]
  exact hP 26 _ (show (tl_5 g (h + 1))[25]? = _ from get_l (get_l (get_l (get_l (get_l (get_l (get_o (n := 22) (i := 3) (by simp [wA_len, wP_len, tl_0, tl_1, tl_2, tl_3, tl_4, mxW]) rfl)))))))
set_option maxRecDepth 20000 in
theorem cc_59 {g : Gh} {h : Nat} {H : Heap} (hg : ∀ k, k < 79 → g.2.2 k = h + pm k) (hP : va_P g.1 vwCl ((h, eF_5 g (h + 1)) :: tl_5 g (h + 1)) H) : va_at g.1 vwCl (g.2.2 59, pic g mu0 59) H := by
  have e : pic g mu0 59 = .inl (g.2.1 0, 41, .inl (fun _ => 0)) := rfl
  have e59 : g.2.2 59 = h + 27 := hg 59 (by decide)
  rw [e, e59]
  exact hP 27 _ (show (tl_5 g (h + 1))[26]? = _ from get_l (get_l (get_l (get_l (get_l (get_l (get_o (n := 22) (i := 4) (by simp [wA_len, wP_len, tl_0, tl_1, tl_2, tl_3, tl_4, mxW]) rfl)))))))
set_option maxRecDepth 20000 in
theorem cc_60 {g : Gh} {h : Nat} {H : Heap} (hg : ∀ k, k < 79 → g.2.2 k = h + pm k) (hP : va_P g.1 vwCl ((h, eF_5 g (h + 1)) :: tl_5 g (h + 1)) H) : va_at g.1 vwCl (g.2.2 60, pic g mu0 60) H := by
  have e : pic g mu0 60 = .inl (g.2.1 0, 41, .inl (fun _ => 0)) := rfl
  have e60 : g.2.2 60 = h + 28 := hg 60 (by decide)
  rw [e, e60]
  exact hP 28 _ (show (tl_5 g (h + 1))[27]? = _ from get_l (get_l (get_l (get_l (get_l (get_l (get_o (n := 22) (i := 5) (by simp [wA_len, wP_len, tl_0, tl_1, tl_2, tl_3, tl_4, mxW]) rfl)))))))
set_option maxRecDepth 20000 in
theorem cc_61 {g : Gh} {h : Nat} {H : Heap} (hg : ∀ k, k < 79 → g.2.2 k = h + pm k) (hP : va_P g.1 vwCl ((h, eF_5 g (h + 1)) :: tl_5 g (h + 1)) H) : va_at g.1 vwCl (g.2.2 61, pic g mu0 61) H := by
  have e : pic g mu0 61 = .inl (g.2.1 0, 41, .inl (fun _ => 0)) := rfl
  have e61 : g.2.2 61 = h + 29 := hg 61 (by decide)
  rw [e, e61]
  exact hP 29 _ (show (tl_5 g (h + 1))[28]? = _ from get_l (get_l (get_l (get_l (get_l (get_l (get_o (n := 22) (i := 6) (by simp [wA_len, wP_len, tl_0, tl_1, tl_2, tl_3, tl_4, mxW]) rfl)))))))
set_option maxRecDepth 20000 in
theorem cc_62 {g : Gh} {h : Nat} {H : Heap} (hg : ∀ k, k < 79 → g.2.2 k = h + pm k) (hP : va_P g.1 vwCl ((h, eF_5 g (h + 1)) :: tl_5 g (h + 1)) H) : va_at g.1 vwCl (g.2.2 62, pic g mu0 62) H := by
  have e : pic g mu0 62 = .inl (g.2.1 0, 41, .inl (fun _ => 0)) := rfl
  have e62 : g.2.2 62 = h + 30 := hg 62 (by decide)
  rw [e, e62]
  exact hP 30 _ (show (tl_5 g (h + 1))[29]? = _ from get_l (get_l (get_l (get_l (get_l (get_l (get_o (n := 22) (i := 7) (by simp [wA_len, wP_len, tl_0, tl_1, tl_2, tl_3, tl_4, mxW]) rfl)))))))
set_option maxRecDepth 20000 in
theorem cc_63 {g : Gh} {h : Nat} {H : Heap} (hg : ∀ k, k < 79 → g.2.2 k = h + pm k) (hP : va_P g.1 vwCl ((h, eF_5 g (h + 1)) :: tl_5 g (h + 1)) H) : va_at g.1 vwCl (g.2.2 63, pic g mu0 63) H := by
  have e : pic g mu0 63 = .inl (g.2.1 0, 41, .inl (fun _ => 0)) := rfl
  have e63 : g.2.2 63 = h + 31 := hg 63 (by decide)
  rw [e, e63]
  exact hP 31 _ (show (tl_5 g (h + 1))[30]? = _ from get_l (get_l (get_l (get_l (get_l (get_l (get_o (n := 22) (i := 8) (by simp [wA_len, wP_len, tl_0, tl_1, tl_2, tl_3, tl_4, mxW]) rfl)))))))
set_option maxRecDepth 20000 in
theorem cc_64 {g : Gh} {h : Nat} {H : Heap} (hg : ∀ k, k < 79 → g.2.2 k = h + pm k) (hP : va_P g.1 vwCl ((h, eF_5 g (h + 1)) :: tl_5 g (h + 1)) H) : va_at g.1 vwCl (g.2.2 64, pic g mu0 64) H := by
  have e : pic g mu0 64 = .inl (g.2.1 0, 41, .inl (fun _ => 0)) := rfl
  have e64 : g.2.2 64 = h + 32 := hg 64 (by decide)
  rw [e, e64]
  exact hP 32 _ (show (tl_5 g (h + 1))[31]? = _ from get_l (get_l (get_l (get_l (get_l (get_l (get_o (n := 22) (i := 9) (by simp [wA_len, wP_len, tl_0, tl_1, tl_2, tl_3, tl_4, mxW]) rfl)))))))
set_option maxRecDepth 20000 in
theorem cc_65 {g : Gh} {h : Nat} {H : Heap} (hg : ∀ k, k < 79 → g.2.2 k = h + pm k) (hP : va_P g.1 vwCl ((h, eF_5 g (h + 1)) :: tl_5 g (h + 1)) H) : va_at g.1 vwCl (g.2.2 65, pic g mu0 65) H := by
  have e : pic g mu0 65 = .inl (g.2.1 0, 41, .inl (fun _ => 0)) := rfl
  have e65 : g.2.2 65 = h + 33 := hg 65 (by decide)
  rw [e, e65]
  exact hP 33 _ (show (tl_5 g (h + 1))[32]? = _ from get_l (get_l (get_l (get_l (get_l (get_l (get_o (n := 22) (i := 10) (by simp [wA_len, wP_len, tl_0, tl_1, tl_2, tl_3, tl_4, mxW]) rfl)))))))
theorem cls_ok {g : Gh} {h : Nat} {H : Heap} (hg : ∀ k, k < 79 → g.2.2 k = h + pm k) (hP : va_P g.1 vwCl ((h, eF_5 g (h + 1)) :: tl_5 g (h + 1)) H) : ∀ k, k < 66 → va_at g.1 vwCl (g.2.2 k, pic g mu0 k) H := by
  intro k hk
  match k, hk with
  | 0, _ => exact cc_0 hg hP
  | 1, _ => exact cc_1 hg hP
  | 2, _ => exact cc_2 hg hP
  | 3, _ => exact cc_3 hg hP
  | 4, _ => exact cc_4 hg hP
  | 5, _ => exact cc_5 hg hP
  | 6, _ => exact cc_6 hg hP
  | 7, _ => exact cc_7 hg hP
  | 8, _ => exact cc_8 hg hP
  | 9, _ => exact cc_9 hg hP
  | 10, _ => exact cc_10 hg hP
  | 11, _ => exact cc_11 hg hP
  | 12, _ => exact cc_12 hg hP
  | 13, _ => exact cc_13 hg hP
  | 14, _ => exact cc_14 hg hP
  | 15, _ => exact cc_15 hg hP
  | 16, _ => exact cc_16 hg hP
  | 17, _ => exact cc_17 hg hP
  | 18, _ => exact cc_18 hg hP
  | 19, _ => exact cc_19 hg hP
  | 20, _ => exact cc_20 hg hP
  | 21, _ => exact cc_21 hg hP
  | 22, _ => exact cc_22 hg hP
  | 23, _ => exact cc_23 hg hP
  | 24, _ => exact cc_24 hg hP
  | 25, _ => exact cc_25 hg hP
  | 26, _ => exact cc_26 hg hP
  | 27, _ => exact cc_27 hg hP
  | 28, _ => exact cc_28 hg hP
  | 29, _ => exact cc_29 hg hP
  | 30, _ => exact cc_30 hg hP
  | 31, _ => exact cc_31 hg hP
  | 32, _ => exact cc_32 hg hP
  | 33, _ => exact cc_33 hg hP
  | 34, _ => exact cc_34 hg hP
  | 35, _ => exact cc_35 hg hP
  | 36, _ => exact cc_36 hg hP
  | 37, _ => exact cc_37 hg hP
  | 38, _ => exact cc_38 hg hP
  | 39, _ => exact cc_39 hg hP
  | 40, _ => exact cc_40 hg hP
  | 41, _ => exact cc_41 hg hP
  | 42, _ => exact cc_42 hg hP
  | 43, _ => exact cc_43 hg hP
  | 44, _ => exact cc_44 hg hP
  | 45, _ => exact cc_45 hg hP
  | 46, _ => exact cc_46 hg hP
  | 47, _ => exact cc_47 hg hP
  | 48, _ => exact cc_48 hg hP
  | 49, _ => exact cc_49 hg hP
  | 50, _ => exact cc_50 hg hP
  | 51, _ => exact cc_51 hg hP
  | 52, _ => exact cc_52 hg hP
  | 53, _ => exact cc_53 hg hP
  | 54, _ => exact cc_54 hg hP
  | 55, _ => exact cc_55 hg hP
  | 56, _ => exact cc_56 hg hP
  | 57, _ => exact cc_57 hg hP
  | 58, _ => exact cc_58 hg hP
  | 59, _ => exact cc_59 hg hP
  | 60, _ => exact cc_60 hg hP
  | 61, _ => exact cc_61 hg hP
  | 62, _ => exact cc_62 hg hP
  | 63, _ => exact cc_63 hg hP
  | 64, _ => exact cc_64 hg hP
  | 65, _ => exact cc_65 hg hP
  | k + 66, hk => omega
theorem fz_o {k : Nat} (j : Nat) (h : k ≠ 66 ∧ k ≠ 67 ∧ k ≠ 69 ∧ k ≠ 70 ∧ k ≠ 75) : rI (fz mu0) k j = rI mu0 k j := by
  unfold fz fzD
  simp only [rI_wI, rI_wB]
  rw [if_neg (by omega), if_neg (by omega), if_neg (by omega), if_neg (by omega), if_neg (by omega), if_neg (by omega), if_neg (by omega), if_neg (by omega), if_neg (by omega)]
theorem mu0_0 {k : Nat} (j : Nat) (h : 54 ≤ k ∨ k = 0 ∨ (9 ≤ k ∧ k < 23) ∨ (24 ≤ k ∧ k < 35) ∨ (36 ≤ k ∧ k < 47) ∨ k = 48 ∨ k = 50 ∨ k = 52) : rI mu0 k j = 0 := by
  show (if (k = 1 ∨ k = 8 ∨ k = 23 ∨ k = 35) ∧ j = 2 then (-4 : Int) else if (k = 47 ∨ k = 49 ∨ k = 51 ∨ k = 53) ∧ (j = 1 ∨ j = 2) then -4 else 0) = 0
  rw [if_neg (by omega), if_neg (by omega)]
theorem fz_67 (j : Nat) : rI (fz mu0) 67 j = 0 := by
  unfold fz fzD
  simp only [rI_wI, rI_wB]
  rw [if_neg (by omega), if_neg (by omega)]
  by_cases z : j < 60
  · rw [if_pos ⟨rfl, z⟩, if_neg (by omega), if_pos ⟨rfl, z⟩]
  · rw [if_neg (by omega), if_neg (by omega), if_neg (by omega), if_neg (by omega), if_neg (by omega), if_neg (by omega), if_neg (by omega)]
    exact mu0_0 j (by omega)
theorem fz_66 (j : Nat) : rI (fz mu0) 66 j = 0 := by
  unfold fz fzD
  simp only [rI_wI, rI_wB]
  rw [if_neg (by omega), if_neg (by omega), if_neg (by omega)]
  by_cases z : j = 4
  · rw [if_pos ⟨rfl, z⟩]
  · rw [if_neg (by omega), if_neg (by omega), if_neg (by omega), if_neg (by omega), if_neg (by omega), if_neg (by omega)]
    exact mu0_0 j (by omega)
theorem fz_69 {j : Nat} (hj : j < 2) : rI (fz mu0) 69 j = 0 := by
  unfold fz fzD
  simp only [rI_wI, rI_wB]
  rcases (show j = 0 ∨ j = 1 by omega) with rfl | rfl
  · rw [if_neg (by omega), if_pos ⟨rfl, rfl⟩]
  · rw [if_pos ⟨rfl, rfl⟩]
theorem fz_75 {j : Nat} (hj : j < 4) : rI (fz mu0) 75 j = -4 := by
  unfold fz fzD
  simp only [rI_wI, rI_wB]
  rw [if_neg (by omega), if_neg (by omega), if_neg (by omega), if_neg (by omega), if_neg (by omega)]
  rcases (show j = 0 ∨ j = 1 ∨ j = 2 ∨ j = 3 by omega) with rfl | rfl | rfl | rfl
  · rw [if_neg (by omega), if_neg (by omega), if_neg (by omega), if_pos ⟨rfl, rfl⟩]
  · rw [if_neg (by omega), if_neg (by omega), if_pos ⟨rfl, rfl⟩]
  · rw [if_neg (by omega), if_pos ⟨rfl, rfl⟩]
  · rw [if_pos ⟨rfl, rfl⟩]
theorem fz_RP (B : Nat) : RP (fz mu0) B := ⟨fun i hi => by show B + 2 ≤ B + 1 + 1 + i ∧ B + 1 + 1 + i ≤ B + 6; omega, fun i j _ _ e => by have e : B + 1 + 1 + i = B + 1 + 1 + j := e; omega⟩
theorem REL0 : REL (fz mu0) := by
  have r1 : ∀ j, j ≠ 2 → rI (fz mu0) 1 j = 0 := fun j hj => by
    rw [fz_o j (by omega)]
    show (if ((1 : Nat) = 1 ∨ (1 : Nat) = 8 ∨ (1 : Nat) = 23 ∨ (1 : Nat) = 35) ∧ j = 2 then (-4 : Int) else if ((1 : Nat) = 47 ∨ (1 : Nat) = 49 ∨ (1 : Nat) = 51 ∨ (1 : Nat) = 53) ∧ (j = 1 ∨ j = 2) then -4 else 0) = 0
    rw [if_neg (by omega), if_neg (by omega)]
  have r2 : rI (fz mu0) 1 2 = -4 := by rw [fz_o 2 (by omega)]; rfl
  have z : ∀ k j, (k = 0 ∨ (9 ≤ k ∧ k < 23) ∨ (24 ≤ k ∧ k < 35) ∨ (36 ≤ k ∧ k < 47) ∨ k = 48 ∨ k = 50 ∨ k = 52 ∨ k = 54 ∨ k = 71 ∨ k = 76 ∨ k = 77) → rI (fz mu0) k j = 0 := fun k j h => by rw [fz_o j (by omega)]; exact mu0_0 j (by omega)
  refine ⟨⟨⟨⟨fz_RP 1, ?_, ?_, ?_, ?_, fun i t h _ => ?_⟩, ?_, ?_, fz_RP 8⟩, ⟨⟨?_, fun h => ?_, ?_, fun i h => ?_⟩, ?_, ?_, ?_⟩, ⟨?_, fun j h => ?_⟩, ⟨?_, fun j h => ?_⟩⟩, ⟨?_, ?_, fun j => ?_, fun j _ => ?_⟩, ⟨?_, ?_, ?_, ?_⟩, fun k hk => ⟨?_, ?_, fz_RP _, fun h => ?_⟩, fun k hk => ⟨?_, ?_, ?_, ?_, fun y hy => ?_⟩⟩
  · rw [r1 1 (by omega), fz_67]
  · rw [r2, fz_67, if_pos rfl]
  · rw [r1 3 (by omega), fz_67]
  · rw [r1 4 (by omega), fz_67]
  · rw [fz_67] at h; omega
  · rw [r1 5 (by omega), fz_67]
  · rw [r1 6 (by omega), fz_67]
  · rw [fz_67]; omega
  · rw [fz_67] at h; omega
  · rw [fz_67, fz_67]; omega
  · rw [fz_67] at h; omega
  · rw [fz_67]; omega
  · rw [fz_67]; omega
  · rw [fz_67]; omega
  · rw [z 15 3 (by omega), fz_67]
  · rw [fz_67] at h; omega
  · rw [fz_67]; omega
  · rw [fz_67] at h; omega
  · rw [z 19 1 (by omega), fz_66]
  · rw [fz_66]; omega
  · rw [z 71 j (by omega), z 20 j (by omega)]
  · rw [z 20 j (by omega)]; omega
  · rw [z 19 2 (by omega), fz_66]
  · rw [fz_66]; exact InR0
  · rw [z 0 7 (by omega), fz_66]
  · rw [fz_66]; exact InR0
  · rw [fz_69 hk, z (22 + 12 * k) 2 (by omega)]
  · exact Or.inl (fz_69 hk)
  · rw [fz_69 hk] at h; omega
  · rw [fz_75 hk, fz_o 1 (by omega)]
    rcases (show k = 0 ∨ k = 1 ∨ k = 2 ∨ k = 3 by omega) with rfl | rfl | rfl | rfl <;> rfl
  · unfold szR
    rw [fz_75 hk, if_pos rfl, fz_o 2 (by omega)]
    rcases (show k = 0 ∨ k = 1 ∨ k = 2 ∨ k = 3 by omega) with rfl | rfl | rfl | rfl <;> rfl
  · rw [fz_75 hk]; omega
  · rw [z 76 k (by omega)]; omega
  · rw [z (48 + 2 * k) y (by omega), z 77 _ (by omega)]; exact ⟨rfl, InR0⟩
