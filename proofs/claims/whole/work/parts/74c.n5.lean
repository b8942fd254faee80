set_option maxRecDepth 20000 in
theorem cc_22 {g : Gh} {h : Nat} {H : Heap} (hg : ∀ k, k < 79 → g.2.2 k = h + pm k) (hP : va_P g.1 vwCl ((h, eF_5 g (h + 1)) :: tl_5 g (h + 1)) H) : va_at g.1 vwCl (g.2.2 22, pic g mu0 22) H := by
  have e : pic g mu0 22 = .inr (0, [.ref (g.2.2 23), .ref (g.2.2 30), .int 0]) := rfl
  have e22 : g.2.2 22 = h + 34 := hg 22 (by decide)
  have e23 : g.2.2 23 = h + 35 := hg 23 (by decide)
  have e30 : g.2.2 30 = h + 42 := hg 30 (by decide)
  rw [e, e22, e23, e30]
  exact tlP hP 33 (get_l (get_l (get_l (get_l (get_l (get_o (n := 33) (i := 0) (by simp [wA_len, wP_len, tl_0, tl_1, tl_2, tl_3, tl_4, mxW]) rfl))))))
set_option maxRecDepth 20000 in
theorem cc_23 {g : Gh} {h : Nat} {H : Heap} (hg : ∀ k, k < 79 → g.2.2 k = h + pm k) (hP : va_P g.1 vwCl ((h, eF_5 g (h + 1)) :: tl_5 g (h + 1)) H) : va_at g.1 vwCl (g.2.2 23, pic g mu0 23) H := by
  have e : pic g mu0 23 = .inr (1, [.ref (g.2.2 24), .int 0, .int (-4), .int 0, .int 0, .int 0, .int 0]) := rfl
  have e23 : g.2.2 23 = h + 35 := hg 23 (by decide)
  have e24 : g.2.2 24 = h + 36 := hg 24 (by decide)
  rw [e, e23, e24]
  exact tlP hP 34 (get_l (get_l (get_l (get_l (get_l (get_o (n := 33) (i := 1) (by simp [wA_len, wP_len, tl_0, tl_1, tl_2, tl_3, tl_4, mxW]) rfl))))))
set_option maxRecDepth 20000 in
theorem cc_24 {g : Gh} {h : Nat} {H : Heap} (hg : ∀ k, k < 79 → g.2.2 k = h + pm k) (hP : va_P g.1 vwCl ((h, eF_5 g (h + 1)) :: tl_5 g (h + 1)) H) : va_at g.1 vwCl (g.2.2 24, pic g mu0 24) H := by
  have e : pic g mu0 24 = .inl (g.2.1 5, 5, .inr (.inr (.inr (.inr (rarr g.2.2 mu0 24))))) := rfl
  have e24 : g.2.2 24 = h + 36 := hg 24 (by decide)
  rw [e, e24]
  have q : H[h + 36]? = some (vp_cell (g.2.1 5) (5, .inr (.inr (.inr (.inr (fun j => some (h + 36 + 1 + j))))))) := tlP hP 35 (get_l (get_l (get_l (get_l (get_l (get_o (n := 33) (i := 2) (by simp [wA_len, wP_len, tl_0, tl_1, tl_2, tl_3, tl_4, mxW]) rfl))))))
  show H[h + 36]? = some (vp_cell (g.2.1 5) (5, .inr (.inr (.inr (.inr (rarr g.2.2 mu0 24))))))
  rw [q]
  refine congrArg some (vq_cg _ (fun j hj => ?_))
  rcases (show j = 0 ∨ j = 1 ∨ j = 2 ∨ j = 3 ∨ j = 4 by omega) with rfl | rfl | rfl | rfl | rfl
  · exact congrArg some (hg 25 (by decide)).symm
  · exact congrArg some (hg 26 (by decide)).symm
  · exact congrArg some (hg 27 (by decide)).symm
  · exact congrArg some (hg 28 (by decide)).symm
  · exact congrArg some (hg 29 (by decide)).symm
set_option maxRecDepth 20000 in
theorem cc_25 {g : Gh} {h : Nat} {H : Heap} (hg : ∀ k, k < 79 → g.2.2 k = h + pm k) (hP : va_P g.1 vwCl ((h, eF_5 g (h + 1)) :: tl_5 g (h + 1)) H) : va_at g.1 vwCl (g.2.2 25, pic g mu0 25) H := by
  have e : pic g mu0 25 = .inl (g.2.1 0, 7, .inl (fun _ => 0)) := by
    have i0 : iarr mu0 25 = fun _ => 0 := funext (fun j => by show Int32.ofInt (rI mu0 25 j) = 0; rw [muA_0 j (by decide)]; rfl)
    rw [← i0]
    exact pic_7 g mu0 (by decide)
  have e25 : g.2.2 25 = h + 37 := hg 25 (by decide)
  rw [e, e25]
  exact tlP hP 36 (get_l (get_l (get_l (get_l (get_l (get_o (n := 33) (i := 3) (by simp [wA_len, wP_len, tl_0, tl_1, tl_2, tl_3, tl_4, mxW]) rfl))))))
set_option maxRecDepth 20000 in
theorem cc_26 {g : Gh} {h : Nat} {H : Heap} (hg : ∀ k, k < 79 → g.2.2 k = h + pm k) (hP : va_P g.1 vwCl ((h, eF_5 g (h + 1)) :: tl_5 g (h + 1)) H) : va_at g.1 vwCl (g.2.2 26, pic g mu0 26) H := by
  have e : pic g mu0 26 = .inl (g.2.1 0, 7, .inl (fun _ => 0)) := by
    have i0 : iarr mu0 26 = fun _ => 0 := funext (fun j => by show Int32.ofInt (rI mu0 26 j) = 0; rw [muA_0 j (by decide)]; rfl)
    rw [← i0]
    exact pic_7 g mu0 (by decide)
  have e26 : g.2.2 26 = h + 38 := hg 26 (by decide)
  rw [e, e26]
  exact tlP hP 37 (get_l (get_l (get_l (get_l (get_l (get_o (n := 33) (i := 4) (by simp [wA_len, wP_len, tl_0, tl_1, tl_2, tl_3, tl_4, mxW]) rfl))))))
set_option maxRecDepth 20000 in
theorem cc_27 {g : Gh} {h : Nat} {H : Heap} (hg : ∀ k, k < 79 → g.2.2 k = h + pm k) (hP : va_P g.1 vwCl ((h, eF_5 g (h + 1)) :: tl_5 g (h + 1)) H) : va_at g.1 vwCl (g.2.2 27, pic g mu0 27) H := by
  have e : pic g mu0 27 = .inl (g.2.1 0, 7, .inl (fun _ => 0)) := by
    have i0 : iarr mu0 27 = fun _ => 0 := funext (fun j => by show Int32.ofInt (rI mu0 27 j) = 0; rw [muA_0 j (by decide)]; rfl)
    rw [← i0]
    exact pic_7 g mu0 (by decide)
  have e27 : g.2.2 27 = h + 39 := hg 27 (by decide)
  rw [e, e27]
  exact tlP hP 38 (get_l (get_l (get_l (get_l (get_l (get_o (n := 33) (i := 5) (by simp [wA_len, wP_len, tl_0, tl_1, tl_2, tl_3, tl_4, mxW]) rfl))))))
set_option maxRecDepth 20000 in
theorem cc_28 {g : Gh} {h : Nat} {H : Heap} (hg : ∀ k, k < 79 → g.2.2 k = h + pm k) (hP : va_P g.1 vwCl ((h, eF_5 g (h + 1)) :: tl_5 g (h + 1)) H) : va_at g.1 vwCl (g.2.2 28, pic g mu0 28) H := by
  have e : pic g mu0 28 = .inl (g.2.1 0, 7, .inl (fun _ => 0)) := by
    have i0 : iarr mu0 28 = fun _ => 0 := funext (fun j => by show Int32.ofInt (rI mu0 28 j) = 0; rw [muA_0 j (by decide)]; rfl)
    rw [← i0]
    exact pic_7 g mu0 (by decide)
  have e28 : g.2.2 28 = h + 40 := hg 28 (by decide)
  rw [e, e28]
  exact tlP hP 39 (get_l (get_l (get_l (get_l (get_l (get_o (n := 33) (i := 6) (by simp [wA_len, wP_len, tl_0, tl_1, tl_2, tl_3, tl_4, mxW]) rfl))))))
set_option maxRecDepth 20000 in
theorem cc_29 {g : Gh} {h : Nat} {H : Heap} (hg : ∀ k, k < 79 → g.2.2 k = h + pm k) (hP : va_P g.1 vwCl ((h, eF_5 g (h + 1)) :: tl_5 g (h + 1)) H) : va_at g.1 vwCl (g.2.2 29, pic g mu0 29) H := by
  have e : pic g mu0 29 = .inl (g.2.1 0, 7, .inl (fun _ => 0)) := by
    have i0 : iarr mu0 29 = fun _ => 0 := funext (fun j => by show Int32.ofInt (rI mu0 29 j) = 0; rw [muA_0 j (by decide)]; rfl)
    rw [← i0]
    exact pic_7 g mu0 (by decide)
  have e29 : g.2.2 29 = h + 41 := hg 29 (by decide)
  rw [e, e29]
  exact tlP hP 40 (get_l (get_l (get_l (get_l (get_l (get_o (n := 33) (i := 7) (by simp [wA_len, wP_len, tl_0, tl_1, tl_2, tl_3, tl_4, mxW]) rfl))))))
set_option maxRecDepth 20000 in
theorem cc_30 {g : Gh} {h : Nat} {H : Heap} (hg : ∀ k, k < 79 → g.2.2 k = h + pm k) (hP : va_P g.1 vwCl ((h, eF_5 g (h + 1)) :: tl_5 g (h + 1)) H) : va_at g.1 vwCl (g.2.2 30, pic g mu0 30) H := by
  have e : pic g mu0 30 = .inr (2, [.ref (g.2.2 31), .ref (g.2.2 32), .ref (g.2.2 33), .int 0]) := rfl
  have e30 : g.2.2 30 = h + 42 := hg 30 (by decide)
  have e31 : g.2.2 31 = h + 43 := hg 31 (by decide)
  have e32 : g.2.2 32 = h + 44 := hg 32 (by decide)
  have e33 : g.2.2 33 = h + 45 := hg 33 (by decide)
  rw [e, e30, e31, e32, e33]
  exact tlP hP 41 (get_l (get_l (get_l (get_l (get_l (get_o (n := 33) (i := 8) (by simp [wA_len, wP_len, tl_0, tl_1, tl_2, tl_3, tl_4, mxW]) rfl))))))
set_option maxRecDepth 20000 in
theorem cc_31 {g : Gh} {h : Nat} {H : Heap} (hg : ∀ k, k < 79 → g.2.2 k = h + pm k) (hP : va_P g.1 vwCl ((h, eF_5 g (h + 1)) :: tl_5 g (h + 1)) H) : va_at g.1 vwCl (g.2.2 31, pic g mu0 31) H := by
  have e : pic g mu0 31 = .inl (g.2.1 0, 6, .inl (fun _ => 0)) := by
    have i0 : iarr mu0 31 = fun _ => 0 := funext (fun j => by show Int32.ofInt (rI mu0 31 j) = 0; rw [muA_0 j (by decide)]; rfl)
    rw [← i0]
    exact pic_7 g mu0 (by decide)
  have e31 : g.2.2 31 = h + 43 := hg 31 (by decide)
  rw [e, e31]
  exact tlP hP 42 (get_l (get_l (get_l (get_l (get_l (get_o (n := 33) (i := 9) (by simp [wA_len, wP_len, tl_0, tl_1, tl_2, tl_3, tl_4, mxW]) rfl))))))
set_option maxRecDepth 20000 in
theorem cc_32 {g : Gh} {h : Nat} {H : Heap} (hg : ∀ k, k < 79 → g.2.2 k = h + pm k) (hP : va_P g.1 vwCl ((h, eF_5 g (h + 1)) :: tl_5 g (h + 1)) H) : va_at g.1 vwCl (g.2.2 32, pic g mu0 32) H := by
  have e : pic g mu0 32 = .inl (g.2.1 0, 6, .inl (fun _ => 0)) := by
    have i0 : iarr mu0 32 = fun _ => 0 := funext (fun j => by show Int32.ofInt (rI mu0 32 j) = 0; rw [muA_0 j (by decide)]; rfl)
    rw [← i0]
    exact pic_7 g mu0 (by decide)
  have e32 : g.2.2 32 = h + 44 := hg 32 (by decide)
  rw [e, e32]
  exact tlP hP 43 (get_l (get_l (get_l (get_l (get_l (get_o (n := 33) (i := 10) (by simp [wA_len, wP_len, tl_0, tl_1, tl_2, tl_3, tl_4, mxW]) rfl))))))
set_option maxRecDepth 20000 in
theorem cc_33 {g : Gh} {h : Nat} {H : Heap} (hg : ∀ k, k < 79 → g.2.2 k = h + pm k) (hP : va_P g.1 vwCl ((h, eF_5 g (h + 1)) :: tl_5 g (h + 1)) H) : va_at g.1 vwCl (g.2.2 33, pic g mu0 33) H := by
  have e : pic g mu0 33 = .inl (g.2.1 0, 6, .inl (fun _ => 0)) := by
    have i0 : iarr mu0 33 = fun _ => 0 := funext (fun j => by show Int32.ofInt (rI mu0 33 j) = 0; rw [muA_0 j (by decide)]; rfl)
    rw [← i0]
    exact pic_7 g mu0 (by decide)
  have e33 : g.2.2 33 = h + 45 := hg 33 (by decide)
  rw [e, e33]
  exact tlP hP 44 (get_l (get_l (get_l (get_l (get_l (get_o (n := 33) (i := 11) (by simp [wA_len, wP_len, tl_0, tl_1, tl_2, tl_3, tl_4, mxW]) rfl))))))
set_option maxRecDepth 20000 in
theorem cc_34 {g : Gh} {h : Nat} {H : Heap} (hg : ∀ k, k < 79 → g.2.2 k = h + pm k) (hP : va_P g.1 vwCl ((h, eF_5 g (h + 1)) :: tl_5 g (h + 1)) H) : va_at g.1 vwCl (g.2.2 34, pic g mu0 34) H := by
  have e : pic g mu0 34 = .inr (0, [.ref (g.2.2 35), .ref (g.2.2 42), .int 0]) := rfl
  have e34 : g.2.2 34 = h + 46 := hg 34 (by decide)
  have e35 : g.2.2 35 = h + 47 := hg 35 (by decide)
  have e42 : g.2.2 42 = h + 54 := hg 42 (by decide)
  rw [e, e34, e35, e42]
  exact tlP hP 45 (get_l (get_l (get_l (get_l (get_o (n := 45) (i := 0) (by simp [wA_len, wP_len, tl_0, tl_1, tl_2, tl_3, tl_4, mxW]) rfl)))))
set_option maxRecDepth 20000 in
theorem cc_35 {g : Gh} {h : Nat} {H : Heap} (hg : ∀ k, k < 79 → g.2.2 k = h + pm k) (hP : va_P g.1 vwCl ((h, eF_5 g (h + 1)) :: tl_5 g (h + 1)) H) : va_at g.1 vwCl (g.2.2 35, pic g mu0 35) H := by
  have e : pic g mu0 35 = .inr (1, [.ref (g.2.2 36), .int 0, .int (-4), .int 0, .int 0, .int 0, .int 0]) := rfl
  have e35 : g.2.2 35 = h + 47 := hg 35 (by decide)
  have e36 : g.2.2 36 = h + 48 := hg 36 (by decide)
  rw [e, e35, e36]
  exact tlP hP 46 (get_l (get_l (get_l (get_l (get_o (n := 45) (i := 1) (by simp [wA_len, wP_len, tl_0, tl_1, tl_2, tl_3, tl_4, mxW]) rfl)))))
set_option maxRecDepth 20000 in
theorem cc_36 {g : Gh} {h : Nat} {H : Heap} (hg : ∀ k, k < 79 → g.2.2 k = h + pm k) (hP : va_P g.1 vwCl ((h, eF_5 g (h + 1)) :: tl_5 g (h + 1)) H) : va_at g.1 vwCl (g.2.2 36, pic g mu0 36) H := by
  have e : pic g mu0 36 = .inl (g.2.1 5, 5, .inr (.inr (.inr (.inr (rarr g.2.2 mu0 36))))) := rfl
  have e36 : g.2.2 36 = h + 48 := hg 36 (by decide)
  rw [e, e36]
  have q : H[h + 48]? = some (vp_cell (g.2.1 5) (5, .inr (.inr (.inr (.inr (fun j => some (h + 48 + 1 + j))))))) := tlP hP 47 (get_l (get_l (get_l (get_l (get_o (n := 45) (i := 2) (by simp [wA_len, wP_len, tl_0, tl_1, tl_2, tl_3, tl_4, mxW]) rfl)))))
  show H[h + 48]? = some (vp_cell (g.2.1 5) (5, .inr (.inr (.inr (.inr (rarr g.2.2 mu0 36))))))
  rw [q]
  refine congrArg some (vq_cg _ (fun j hj => ?_))
  rcases (show j = 0 ∨ j = 1 ∨ j = 2 ∨ j = 3 ∨ j = 4 by omega) with rfl | rfl | rfl | rfl | rfl
  · exact congrArg some (hg 37 (by decide)).symm
  · exact congrArg some (hg 38 (by decide)).symm
  · exact congrArg some (hg 39 (by decide)).symm
  · exact congrArg some (hg 40 (by decide)).symm
  · exact congrArg some (hg 41 (by decide)).symm
set_option maxRecDepth 20000 in
theorem cc_37 {g : Gh} {h : Nat} {H : Heap} (hg : ∀ k, k < 79 → g.2.2 k = h + pm k) (hP : va_P g.1 vwCl ((h, eF_5 g (h + 1)) :: tl_5 g (h + 1)) H) : va_at g.1 vwCl (g.2.2 37, pic g mu0 37) H := by
  have e : pic g mu0 37 = .inl (g.2.1 0, 7, .inl (fun _ => 0)) := by
    have i0 : iarr mu0 37 = fun _ => 0 := funext (fun j => by show Int32.ofInt (rI mu0 37 j) = 0; rw [muA_0 j (by decide)]; rfl)
    rw [← i0]
    exact pic_7 g mu0 (by decide)
  have e37 : g.2.2 37 = h + 49 := hg 37 (by decide)
  rw [e, e37]
  exact tlP hP 48 (get_l (get_l (get_l (get_l (get_o (n := 45) (i := 3) (by simp [wA_len, wP_len, tl_0, tl_1, tl_2, tl_3, tl_4, mxW]) rfl)))))
set_option maxRecDepth 20000 in
theorem cc_38 {g : Gh} {h : Nat} {H : Heap} (hg : ∀ k, k < 79 → g.2.2 k = h + pm k) (hP : va_P g.1 vwCl ((h, eF_5 g (h + 1)) :: tl_5 g (h + 1)) H) : va_at g.1 vwCl (g.2.2 38, pic g mu0 38) H := by
  have e : pic g mu0 38 = .inl (g.2.1 0, 7, .inl (fun _ => 0)) := by
    have i0 : iarr mu0 38 = fun _ => 0 := funext (fun j => by show Int32.ofInt (rI mu0 38 j) = 0; rw [muA_0 j (by decide)]; rfl)
    rw [← i0]
    exact pic_7 g mu0 (by decide)
  have e38 : g.2.2 38 = h + 50 := hg 38 (by decide)
  rw [e, e38]
  exact tlP hP 49 (get_l (get_l (get_l (get_l (get_o (n := 45) (i := 4) (by simp [wA_len, wP_len, tl_0, tl_1, tl_2, tl_3, tl_4, mxW]) rfl)))))
set_option maxRecDepth 20000 in
theorem cc_39 {g : Gh} {h : Nat} {H : Heap} (hg : ∀ k, k < 79 → g.2.2 k = h + pm k) (hP : va_P g.1 vwCl ((h, eF_5 g (h + 1)) :: tl_5 g (h + 1)) H) : va_at g.1 vwCl (g.2.2 39, pic g mu0 39) H := by
  have e : pic g mu0 39 = .inl (g.2.1 0, 7, .inl (fun _ => 0)) := by
    have i0 : iarr mu0 39 = fun _ => 0 := funext (fun j => by show Int32.ofInt (rI mu0 39 j) = 0; rw [muA_0 j (by decide)]; rfl)
    rw [← i0]
    exact pic_7 g mu0 (by decide)
  have e39 : g.2.2 39 = h + 51 := hg 39 (by decide)
  rw [e, e39]
  exact tlP hP 50 (get_l (get_l (get_l (get_l (get_o (n := 45) (i := 5) (by simp [wA_len, wP_len, tl_0, tl_1, tl_2, tl_3, tl_4, mxW]) rfl)))))
set_option maxRecDepth 20000 in
theorem cc_40 {g : Gh} {h : Nat} {H : Heap} (hg : ∀ k, k < 79 → g.2.2 k = h + pm k) (hP : va_P g.1 vwCl ((h, eF_5 g (h + 1)) :: tl_5 g (h + 1)) H) : va_at g.1 vwCl (g.2.2 40, pic g mu0 40) H := by
  have e : pic g mu0 40 = .inl (g.2.1 0, 7, .inl (fun _ => 0)) := by
    have i0 : iarr mu0 40 = fun _ => 0 := funext (fun j => by show Int32.ofInt (rI mu0 40 j) = 0; rw [muA_0 j (by decide)]; rfl)
    rw [← i0]
    exact pic_7 g mu0 (by decide)
  have e40 : g.2.2 40 = h + 52 := hg 40 (by decide)
  rw [e, e40]
  exact tlP hP 51 (get_l (get_l (get_l (get_l (get_o (n := 45) (i := 6) (by simp [wA_len, wP_len, tl_0, tl_1, tl_2, tl_3, tl_4, mxW]) rfl)))))
set_option maxRecDepth 20000 in
theorem cc_41 {g : Gh} {h : Nat} {H : Heap} (hg : ∀ k, k < 79 → g.2.2 k = h + pm k) (hP : va_P g.1 vwCl ((h, eF_5 g (h + 1)) :: tl_5 g (h + 1)) H) : va_at g.1 vwCl (g.2.2 41, pic g mu0 41) H := by
  have e : pic g mu0 41 = .inl (g.2.1 0, 7, .inl (fun _ => 0)) := by
    have i0 : iarr mu0 41 = fun _ => 0 := funext (fun j => by show Int32.ofInt (rI mu0 41 j) = 0; rw [muA_0 j (by decide)]; rfl)
    rw [← i0]
    exact pic_7 g mu0 (by decide)
  have e41 : g.2.2 41 = h + 53 := hg 41 (by decide)
  rw [e, e41]
  exact tlP hP 52 (get_l (get_l (get_l (get_l (get_o (n := 45) (i := 7) (by simp [wA_len, wP_len, tl_0, tl_1, tl_2, tl_3, tl_4, mxW]) rfl)))))
set_option maxRecDepth 20000 in
theorem cc_42 {g : Gh} {h : Nat} {H : Heap} (hg : ∀ k, k < 79 → g.2.2 k = h + pm k) (hP : va_P g.1 vwCl ((h, eF_5 g (h + 1)) :: tl_5 g (h + 1)) H) : va_at g.1 vwCl (g.2.2 42, pic g mu0 42) H := by
  have e : pic g mu0 42 = .inr (2, [.ref (g.2.2 43), .ref (g.2.2 44), .ref (g.2.2 45), .int 0]) := rfl
  have e42 : g.2.2 42 = h + 54 := hg 42 (by decide)
  have e43 : g.2.2 43 = h + 55 := hg 43 (by decide)
  have e44 : g.2.2 44 = h + 56 := hg 44 (by decide)
  have e45 : g.2.2 45 = h + 57 := hg 45 (by decide)
  rw [e, e42, e43, e44, e45]
  exact tlP hP 53 (get_l (get_l (get_l (get_l (get_o (n := 45) (i := 8) (by simp [wA_len, wP_len, tl_0, tl_1, tl_2, tl_3, tl_4, mxW]) rfl)))))
set_option maxRecDepth 20000 in
theorem cc_43 {g : Gh} {h : Nat} {H : Heap} (hg : ∀ k, k < 79 → g.2.2 k = h + pm k) (hP : va_P g.1 vwCl ((h, eF_5 g (h + 1)) :: tl_5 g (h + 1)) H) : va_at g.1 vwCl (g.2.2 43, pic g mu0 43) H := by
  have e : pic g mu0 43 = .inl (g.2.1 0, 6, .inl (fun _ => 0)) := by
    have i0 : iarr mu0 43 = fun _ => 0 := funext (fun j => by show Int32.ofInt (rI mu0 43 j) = 0; rw [muA_0 j (by decide)]; rfl)
    rw [← i0]
    exact pic_7 g mu0 (by decide)
  have e43 : g.2.2 43 = h + 55 := hg 43 (by decide)
  rw [e, e43]
  exact tlP hP 54 (get_l (get_l (get_l (get_l (get_o (n := 45) (i := 9) (by simp [wA_len, wP_len, tl_0, tl_1, tl_2, tl_3, tl_4, mxW]) rfl)))))
set_option maxRecDepth 20000 in
theorem cc_44 {g : Gh} {h : Nat} {H : Heap} (hg : ∀ k, k < 79 → g.2.2 k = h + pm k) (hP : va_P g.1 vwCl ((h, eF_5 g (h + 1)) :: tl_5 g (h + 1)) H) : va_at g.1 vwCl (g.2.2 44, pic g mu0 44) H := by
  have e : pic g mu0 44 = .inl (g.2.1 0, 6, .inl (fun _ => 0)) := by
    have i0 : iarr mu0 44 = fun _ => 0 := funext (fun j => by show Int32.ofInt (rI mu0 44 j) = 0; rw [muA_0 j (by decide)]; rfl)
    rw [← i0]
    exact pic_7 g mu0 (by decide)
  have e44 : g.2.2 44 = h + 56 := hg 44 (by decide)
  rw [e, e44]
  exact tlP hP 55 (get_l (get_l (get_l (get_l (get_o (n := 45) (i := 10) (by simp [wA_len, wP_len, tl_0, tl_1, tl_2, tl_3, tl_4, mxW]) rfl)))))
set_option maxRecDepth 20000 in
theorem cc_45 {g : Gh} {h : Nat} {H : Heap} (hg : ∀ k, k < 79 → g.2.2 k = h + pm k) (hP : va_P g.1 vwCl ((h, eF_5 g (h + 1)) :: tl_5 g (h + 1)) H) : va_at g.1 vwCl (g.2.2 45, pic g mu0 45) H := by
  have e : pic g mu0 45 = .inl (g.2.1 0, 6, .inl (fun _ => 0)) := by
    have i0 : iarr mu0 45 = fun _ => 0 := funext (fun j => by show Int32.ofInt (rI mu0 45 j) = 0; rw [muA_0 j (by decide)]; rfl)
    rw [← i0]
    exact pic_7 g mu0 (by decide)
  have e45 : g.2.2 45 = h + 57 := hg 45 (by decide)
  rw [e, e45]
  exact tlP hP 56 (get_l (get_l (get_l (get_l (get_o (n := 45) (i := 11) (by simp [wA_len, wP_len, tl_0, tl_1, tl_2, tl_3, tl_4, mxW]) rfl)))))
