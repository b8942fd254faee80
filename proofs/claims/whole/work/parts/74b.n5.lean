set_option maxRecDepth 20000 in
theorem cc_4 {g : Gh} {h : Nat} {H : Heap} (hg : ∀ k, k < 79 → g.2.2 k = h + pm k) (hP : va_P g.1 vwCl ((h, eF_5 g (h + 1)) :: tl_5 g (h + 1)) H) : va_at g.1 vwCl (g.2.2 4, pic g mu0 4) H := by
  have e : pic g mu0 4 = .inl (g.2.1 0, 7, .inl (fun _ => 0)) := by
    have i0 : iarr mu0 4 = fun _ => 0 := funext (fun j => by show Int32.ofInt (rI mu0 4 j) = 0; rw [muA_0 j (by decide)]; rfl)
    rw [← i0]
    exact pic_7 g mu0 (by decide)
  have e4 : g.2.2 4 = h + 4 := hg 4 (by decide)
  rw [e, e4]
  exact tlP hP 3 (get_l (get_l (get_l (get_l (get_l (get_l (get_l (get_l (get_l (get_l (get_l (get_l (rfl)))))))))))))
set_option maxRecDepth 20000 in
theorem cc_5 {g : Gh} {h : Nat} {H : Heap} (hg : ∀ k, k < 79 → g.2.2 k = h + pm k) (hP : va_P g.1 vwCl ((h, eF_5 g (h + 1)) :: tl_5 g (h + 1)) H) : va_at g.1 vwCl (g.2.2 5, pic g mu0 5) H := by
  have e : pic g mu0 5 = .inl (g.2.1 0, 7, .inl (fun _ => 0)) := by
    have i0 : iarr mu0 5 = fun _ => 0 := funext (fun j => by show Int32.ofInt (rI mu0 5 j) = 0; rw [muA_0 j (by decide)]; rfl)
    rw [← i0]
    exact pic_7 g mu0 (by decide)
  have e5 : g.2.2 5 = h + 5 := hg 5 (by decide)
  rw [e, e5]
  exact tlP hP 4 (get_l (get_l (get_l (get_l (get_l (get_l (get_l (get_l (get_l (get_l (get_l (get_l (rfl)))))))))))))
set_option maxRecDepth 20000 in
theorem cc_6 {g : Gh} {h : Nat} {H : Heap} (hg : ∀ k, k < 79 → g.2.2 k = h + pm k) (hP : va_P g.1 vwCl ((h, eF_5 g (h + 1)) :: tl_5 g (h + 1)) H) : va_at g.1 vwCl (g.2.2 6, pic g mu0 6) H := by
  have e : pic g mu0 6 = .inl (g.2.1 0, 7, .inl (fun _ => 0)) := by
    have i0 : iarr mu0 6 = fun _ => 0 := funext (fun j => by show Int32.ofInt (rI mu0 6 j) = 0; rw [muA_0 j (by decide)]; rfl)
    rw [← i0]
    exact pic_7 g mu0 (by decide)
  have e6 : g.2.2 6 = h + 6 := hg 6 (by decide)
  rw [e, e6]
  exact tlP hP 5 (get_l (get_l (get_l (get_l (get_l (get_l (get_l (get_l (get_l (get_l (get_l (get_l (rfl)))))))))))))
set_option maxRecDepth 20000 in
theorem cc_7 {g : Gh} {h : Nat} {H : Heap} (hg : ∀ k, k < 79 → g.2.2 k = h + pm k) (hP : va_P g.1 vwCl ((h, eF_5 g (h + 1)) :: tl_5 g (h + 1)) H) : va_at g.1 vwCl (g.2.2 7, pic g mu0 7) H := by
  have e : pic g mu0 7 = .inl (g.2.1 0, 7, .inl (fun _ => 0)) := by
    have i0 : iarr mu0 7 = fun _ => 0 := funext (fun j => by show Int32.ofInt (rI mu0 7 j) = 0; rw [muA_0 j (by decide)]; rfl)
    rw [← i0]
    exact pic_7 g mu0 (by decide)
  have e7 : g.2.2 7 = h + 7 := hg 7 (by decide)
  rw [e, e7]
  exact tlP hP 6 (get_l (get_l (get_l (get_l (get_l (get_l (get_l (get_l (get_l (get_l (get_l (get_l (rfl)))))))))))))
set_option maxRecDepth 20000 in
theorem cc_8 {g : Gh} {h : Nat} {H : Heap} (hg : ∀ k, k < 79 → g.2.2 k = h + pm k) (hP : va_P g.1 vwCl ((h, eF_5 g (h + 1)) :: tl_5 g (h + 1)) H) : va_at g.1 vwCl (g.2.2 8, pic g mu0 8) H := by
  have e : pic g mu0 8 = .inr (1, [.ref (g.2.2 9), .int 0, .int (-4), .int 0, .int 0, .int 0, .int 0]) := rfl
  have e8 : g.2.2 8 = h + 8 := hg 8 (by decide)
  have e9 : g.2.2 9 = h + 9 := hg 9 (by decide)
  rw [e, e8, e9]
  exact tlP hP 7 (get_l (get_l (get_l (get_l (get_l (get_l (get_l (get_l (get_l (get_l (get_l (get_o (n := 7) (i := 0) (by simp [wA_len, wP_len, tl_0, tl_1, tl_2, tl_3, tl_4, mxW]) rfl))))))))))))
set_option maxRecDepth 20000 in
theorem cc_9 {g : Gh} {h : Nat} {H : Heap} (hg : ∀ k, k < 79 → g.2.2 k = h + pm k) (hP : va_P g.1 vwCl ((h, eF_5 g (h + 1)) :: tl_5 g (h + 1)) H) : va_at g.1 vwCl (g.2.2 9, pic g mu0 9) H := by
  have e : pic g mu0 9 = .inl (g.2.1 5, 5, .inr (.inr (.inr (.inr (rarr g.2.2 mu0 9))))) := rfl
  have e9 : g.2.2 9 = h + 9 := hg 9 (by decide)
  rw [e, e9]
  have q : H[h + 9]? = some (vp_cell (g.2.1 5) (5, .inr (.inr (.inr (.inr (fun j => some (h + 9 + 1 + j))))))) := tlP hP 8 (get_l (get_l (get_l (get_l (get_l (get_l (get_l (get_l (get_l (get_l (get_l (get_o (n := 7) (i := 1) (by simp [wA_len, wP_len, tl_0, tl_1, tl_2, tl_3, tl_4, mxW]) rfl))))))))))))
  show H[h + 9]? = some (vp_cell (g.2.1 5) (5, .inr (.inr (.inr (.inr (rarr g.2.2 mu0 9))))))
  rw [q]
  refine congrArg some (vq_cg _ (fun j hj => ?_))
  rcases (show j = 0 ∨ j = 1 ∨ j = 2 ∨ j = 3 ∨ j = 4 by omega) with rfl | rfl | rfl | rfl | rfl
  · exact congrArg some (hg 10 (by decide)).symm
  · exact congrArg some (hg 11 (by decide)).symm
  · exact congrArg some (hg 12 (by decide)).symm
  · exact congrArg some (hg 13 (by decide)).symm
  · exact congrArg some (hg 14 (by decide)).symm
set_option maxRecDepth 20000 in
theorem cc_10 {g : Gh} {h : Nat} {H : Heap} (hg : ∀ k, k < 79 → g.2.2 k = h + pm k) (hP : va_P g.1 vwCl ((h, eF_5 g (h + 1)) :: tl_5 g (h + 1)) H) : va_at g.1 vwCl (g.2.2 10, pic g mu0 10) H := by
  have e : pic g mu0 10 = .inl (g.2.1 0, 7, .inl (fun _ => 0)) := by
    have i0 : iarr mu0 10 = fun _ => 0 := funext (fun j => by show Int32.ofInt (rI mu0 10 j) = 0; rw [muA_0 j (by decide)]; rfl)
    rw [← i0]
    exact pic_7 g mu0 (by decide)
  have e10 : g.2.2 10 = h + 10 := hg 10 (by decide)
  rw [e, e10]
  exact tlP hP 9 (get_l (get_l (get_l (get_l (get_l (get_l (get_l (get_l (get_l (get_l (get_l (get_o (n := 7) (i := 2) (by simp [wA_len, wP_len, tl_0, tl_1, tl_2, tl_3, tl_4, mxW]) rfl))))))))))))
set_option maxRecDepth 20000 in
theorem cc_11 {g : Gh} {h : Nat} {H : Heap} (hg : ∀ k, k < 79 → g.2.2 k = h + pm k) (hP : va_P g.1 vwCl ((h, eF_5 g (h + 1)) :: tl_5 g (h + 1)) H) : va_at g.1 vwCl (g.2.2 11, pic g mu0 11) H := by
  have e : pic g mu0 11 = .inl (g.2.1 0, 7, .inl (fun _ => 0)) := by
    have i0 : iarr mu0 11 = fun _ => 0 := funext (fun j => by show Int32.ofInt (rI mu0 11 j) = 0; rw [muA_0 j (by decide)]; rfl)
    rw [← i0]
    exact pic_7 g mu0 (by decide)
  have e11 : g.2.2 11 = h + 11 := hg 11 (by decide)
  rw [e, e11]
  exact tlP hP 10 (get_l (get_l (get_l (get_l (get_l (get_l (get_l (get_l (get_l (get_l (get_l (get_o (n := 7) (i := 3) (by simp [wA_len, wP_len, tl_0, tl_1, tl_2, tl_3, tl_4, mxW]) rfl))))))))))))
set_option maxRecDepth 20000 in
theorem cc_12 {g : Gh} {h : Nat} {H : Heap} (hg : ∀ k, k < 79 → g.2.2 k = h + pm k) (hP : va_P g.1 vwCl ((h, eF_5 g (h + 1)) :: tl_5 g (h + 1)) H) : va_at g.1 vwCl (g.2.2 12, pic g mu0 12) H := by
  have e : pic g mu0 12 = .inl (g.2.1 0, 7, .inl (fun _ => 0)) := by
    have i0 : iarr mu0 12 = fun _ => 0 := funext (fun j => by show Int32.ofInt (rI mu0 12 j) = 0; rw [muA_0 j (by decide)]; rfl)
    rw [← i0]
    exact pic_7 g mu0 (by decide)
  have e12 : g.2.2 12 = h + 12 := hg 12 (by decide)
  rw [e, e12]
  exact tlP hP 11 (get_l (get_l (get_l (get_l (get_l (get_l (get_l (get_l (get_l (get_l (get_l (get_o (n := 7) (i := 4) (by simp [wA_len, wP_len, tl_0, tl_1, tl_2, tl_3, tl_4, mxW]) rfl))))))))))))
set_option maxRecDepth 20000 in
theorem cc_13 {g : Gh} {h : Nat} {H : Heap} (hg : ∀ k, k < 79 → g.2.2 k = h + pm k) (hP : va_P g.1 vwCl ((h, eF_5 g (h + 1)) :: tl_5 g (h + 1)) H) : va_at g.1 vwCl (g.2.2 13, pic g mu0 13) H := by
  have e : pic g mu0 13 = .inl (g.2.1 0, 7, .inl (fun _ => 0)) := by
    have i0 : iarr mu0 13 = fun _ => 0 := funext (fun j => by show Int32.ofInt (rI mu0 13 j) = 0; rw [muA_0 j (by decide)]; rfl)
    rw [← i0]
    exact pic_7 g mu0 (by decide)
  have e13 : g.2.2 13 = h + 13 := hg 13 (by decide)
  rw [e, e13]
  exact tlP hP 12 (get_l (get_l (get_l (get_l (get_l (get_l (get_l (get_l (get_l (get_l (get_l (get_o (n := 7) (i := 5) (by simp [wA_len, wP_len, tl_0, tl_1, tl_2, tl_3, tl_4, mxW]) rfl))))))))))))
set_option maxRecDepth 20000 in
theorem cc_14 {g : Gh} {h : Nat} {H : Heap} (hg : ∀ k, k < 79 → g.2.2 k = h + pm k) (hP : va_P g.1 vwCl ((h, eF_5 g (h + 1)) :: tl_5 g (h + 1)) H) : va_at g.1 vwCl (g.2.2 14, pic g mu0 14) H := by
  have e : pic g mu0 14 = .inl (g.2.1 0, 7, .inl (fun _ => 0)) := by
    have i0 : iarr mu0 14 = fun _ => 0 := funext (fun j => by show Int32.ofInt (rI mu0 14 j) = 0; rw [muA_0 j (by decide)]; rfl)
    rw [← i0]
    exact pic_7 g mu0 (by decide)
  have e14 : g.2.2 14 = h + 14 := hg 14 (by decide)
  rw [e, e14]
  exact tlP hP 13 (get_l (get_l (get_l (get_l (get_l (get_l (get_l (get_l (get_l (get_l (get_l (get_o (n := 7) (i := 6) (by simp [wA_len, wP_len, tl_0, tl_1, tl_2, tl_3, tl_4, mxW]) rfl))))))))))))
set_option maxRecDepth 20000 in
theorem cc_15 {g : Gh} {h : Nat} {H : Heap} (hg : ∀ k, k < 79 → g.2.2 k = h + pm k) (hP : va_P g.1 vwCl ((h, eF_5 g (h + 1)) :: tl_5 g (h + 1)) H) : va_at g.1 vwCl (g.2.2 15, pic g mu0 15) H := by
  have e : pic g mu0 15 = .inr (2, [.ref (g.2.2 16), .ref (g.2.2 17), .ref (g.2.2 18), .int 0]) := rfl
  have e15 : g.2.2 15 = h + 15 := hg 15 (by decide)
  have e16 : g.2.2 16 = h + 16 := hg 16 (by decide)
  have e17 : g.2.2 17 = h + 17 := hg 17 (by decide)
  have e18 : g.2.2 18 = h + 18 := hg 18 (by decide)
  rw [e, e15, e16, e17, e18]
  exact tlP hP 14 (get_l (get_l (get_l (get_l (get_l (get_l (get_l (get_l (get_l (get_l (get_o (n := 14) (i := 0) (by simp [wA_len, wP_len, tl_0, tl_1, tl_2, tl_3, tl_4, mxW]) rfl)))))))))))
set_option maxRecDepth 20000 in
theorem cc_16 {g : Gh} {h : Nat} {H : Heap} (hg : ∀ k, k < 79 → g.2.2 k = h + pm k) (hP : va_P g.1 vwCl ((h, eF_5 g (h + 1)) :: tl_5 g (h + 1)) H) : va_at g.1 vwCl (g.2.2 16, pic g mu0 16) H := by
  have e : pic g mu0 16 = .inl (g.2.1 0, 6, .inl (fun _ => 0)) := by
    have i0 : iarr mu0 16 = fun _ => 0 := funext (fun j => by show Int32.ofInt (rI mu0 16 j) = 0; rw [muA_0 j (by decide)]; rfl)
    rw [← i0]
    exact pic_7 g mu0 (by decide)
  have e16 : g.2.2 16 = h + 16 := hg 16 (by decide)
  rw [e, e16]
  exact tlP hP 15 (get_l (get_l (get_l (get_l (get_l (get_l (get_l (get_l (get_l (get_l (get_o (n := 14) (i := 1) (by simp [wA_len, wP_len, tl_0, tl_1, tl_2, tl_3, tl_4, mxW]) rfl)))))))))))
set_option maxRecDepth 20000 in
theorem cc_17 {g : Gh} {h : Nat} {H : Heap} (hg : ∀ k, k < 79 → g.2.2 k = h + pm k) (hP : va_P g.1 vwCl ((h, eF_5 g (h + 1)) :: tl_5 g (h + 1)) H) : va_at g.1 vwCl (g.2.2 17, pic g mu0 17) H := by
  have e : pic g mu0 17 = .inl (g.2.1 0, 6, .inl (fun _ => 0)) := by
    have i0 : iarr mu0 17 = fun _ => 0 := funext (fun j => by show Int32.ofInt (rI mu0 17 j) = 0; rw [muA_0 j (by decide)]; rfl)
    rw [← i0]
    exact pic_7 g mu0 (by decide)
  have e17 : g.2.2 17 = h + 17 := hg 17 (by decide)
  rw [e, e17]
  exact tlP hP 16 (get_l (get_l (get_l (get_l (get_l (get_l (get_l (get_l (get_l (get_l (get_o (n := 14) (i := 2) (by simp [wA_len, wP_len, tl_0, tl_1, tl_2, tl_3, tl_4, mxW]) rfl)))))))))))
set_option maxRecDepth 20000 in
theorem cc_18 {g : Gh} {h : Nat} {H : Heap} (hg : ∀ k, k < 79 → g.2.2 k = h + pm k) (hP : va_P g.1 vwCl ((h, eF_5 g (h + 1)) :: tl_5 g (h + 1)) H) : va_at g.1 vwCl (g.2.2 18, pic g mu0 18) H := by
  have e : pic g mu0 18 = .inl (g.2.1 0, 6, .inl (fun _ => 0)) := by
    have i0 : iarr mu0 18 = fun _ => 0 := funext (fun j => by show Int32.ofInt (rI mu0 18 j) = 0; rw [muA_0 j (by decide)]; rfl)
    rw [← i0]
    exact pic_7 g mu0 (by decide)
  have e18 : g.2.2 18 = h + 18 := hg 18 (by decide)
  rw [e, e18]
  exact tlP hP 17 (get_l (get_l (get_l (get_l (get_l (get_l (get_l (get_l (get_l (get_l (get_o (n := 14) (i := 3) (by simp [wA_len, wP_len, tl_0, tl_1, tl_2, tl_3, tl_4, mxW]) rfl)))))))))))
set_option maxRecDepth 20000 in
theorem cc_19 {g : Gh} {h : Nat} {H : Heap} (hg : ∀ k, k < 79 → g.2.2 k = h + pm k) (hP : va_P g.1 vwCl ((h, eF_5 g (h + 1)) :: tl_5 g (h + 1)) H) : va_at g.1 vwCl (g.2.2 19, pic g mu0 19) H := by
  have e : pic g mu0 19 = .inr (4, [.ref (g.2.2 20), .int 0, .int 0, .int 0, .int 0, .int 0, .int 0]) := rfl
  have e19 : g.2.2 19 = h + 19 := hg 19 (by decide)
  have e20 : g.2.2 20 = h + 20 := hg 20 (by decide)
  rw [e, e19, e20]
  exact tlP hP 18 (get_l (get_l (get_l (get_l (get_l (get_l (get_l (get_l (get_l (get_o (n := 18) (i := 0) (by simp [wA_len, wP_len, tl_0, tl_1, tl_2, tl_3, tl_4, mxW]) rfl))))))))))
set_option maxRecDepth 20000 in
theorem cc_20 {g : Gh} {h : Nat} {H : Heap} (hg : ∀ k, k < 79 → g.2.2 k = h + pm k) (hP : va_P g.1 vwCl ((h, eF_5 g (h + 1)) :: tl_5 g (h + 1)) H) : va_at g.1 vwCl (g.2.2 20, pic g mu0 20) H := by
  have e : pic g mu0 20 = .inl (g.2.1 1, 160, .inl (fun _ => 0)) := by
    have i0 : iarr mu0 20 = fun _ => 0 := funext (fun j => by show Int32.ofInt (rI mu0 20 j) = 0; rw [muA_0 j (by decide)]; rfl)
    rw [← i0]
    exact pic_8 g mu0 (by decide)
  have e20 : g.2.2 20 = h + 20 := hg 20 (by decide)
  rw [e, e20]
  exact tlP hP 19 (get_l (get_l (get_l (get_l (get_l (get_l (get_l (get_l (get_l (get_o (n := 18) (i := 1) (by simp [wA_len, wP_len, tl_0, tl_1, tl_2, tl_3, tl_4, mxW]) rfl))))))))))
set_option maxRecDepth 20000 in
theorem cc_21 {g : Gh} {h : Nat} {H : Heap} (hg : ∀ k, k < 79 → g.2.2 k = h + pm k) (hP : va_P g.1 vwCl ((h, eF_5 g (h + 1)) :: tl_5 g (h + 1)) H) : va_at g.1 vwCl (g.2.2 21, pic g mu0 21) H := by
  have e : pic g mu0 21 = .inl (g.2.1 3, 2, .inr (.inr (.inr (.inr (rarr g.2.2 mu0 21))))) := rfl
  have e21 : g.2.2 21 = h + 21 := hg 21 (by decide)
  rw [e, e21]
  have q : H[h + 21]? = some (vp_cell (g.2.1 3) (2, .inr (.inr (.inr (.inr (va_up (va_up (fun _ => none) 0 (some (h + 1 + 33))) 1 (some (h + 1 + 45)))))))) := tlP hP 20 (get_l (get_l (get_l (get_l (get_l (get_l (get_l (get_l (get_o (n := 20) (i := 0) (by simp [wA_len, wP_len, tl_0, tl_1, tl_2, tl_3, tl_4, mxW]) rfl)))))))))
  show H[h + 21]? = some (vp_cell (g.2.1 3) (2, .inr (.inr (.inr (.inr (rarr g.2.2 mu0 21))))))
  rw [q]
  refine congrArg some (vq_cg _ (fun j hj => ?_))
  rcases (show j = 0 ∨ j = 1 by omega) with rfl | rfl
  · exact congrArg some (hg 22 (by decide)).symm
  · exact congrArg some (hg 34 (by decide)).symm
