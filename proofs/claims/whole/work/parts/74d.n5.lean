set_option maxRecDepth 20000 in
theorem cc_46 {g : Gh} {h : Nat} {H : Heap} (hg : ∀ k, k < 79 → g.2.2 k = h + pm k) (hP : va_P g.1 vwCl ((h, eF_5 g (h + 1)) :: tl_5 g (h + 1)) H) : va_at g.1 vwCl (g.2.2 46, pic g mu0 46) H := by
  have e : pic g mu0 46 = .inl (g.2.1 4, 4, .inr (.inr (.inr (.inr (rarr g.2.2 mu0 46))))) := rfl
  have e46 : g.2.2 46 = h + 22 := hg 46 (by decide)
  rw [e, e46]
  have q : H[h + 22]? = some (vp_cell (g.2.1 4) (4, .inr (.inr (.inr (.inr (va_up (va_up (va_up (va_up (fun _ => none) 0 (some (h + 1 + 57))) 1 (some (h + 1 + 59))) 2 (some (h + 1 + 61))) 3 (some (h + 1 + 63)))))))) := tlP hP 21 (get_l (get_l (get_l (get_l (get_l (get_l (get_l (get_o (n := 21) (i := 0) (by simp [wA_len, wP_len, tl_0, tl_1, tl_2, tl_3, tl_4, mxW]) rfl))))))))
  show H[h + 22]? = some (vp_cell (g.2.1 4) (4, .inr (.inr (.inr (.inr (rarr g.2.2 mu0 46))))))
  rw [q]
  refine congrArg some (vq_cg _ (fun j hj => ?_))
  rcases (show j = 0 ∨ j = 1 ∨ j = 2 ∨ j = 3 by omega) with rfl | rfl | rfl | rfl
  · exact congrArg some (hg 47 (by decide)).symm
  · exact congrArg some (hg 49 (by decide)).symm
  · exact congrArg some (hg 51 (by decide)).symm
  · exact congrArg some (hg 53 (by decide)).symm
set_option maxRecDepth 20000 in
theorem cc_47 {g : Gh} {h : Nat} {H : Heap} (hg : ∀ k, k < 79 → g.2.2 k = h + pm k) (hP : va_P g.1 vwCl ((h, eF_5 g (h + 1)) :: tl_5 g (h + 1)) H) : va_at g.1 vwCl (g.2.2 47, pic g mu0 47) H := by
  have e : pic g mu0 47 = .inr (3, [.ref (g.2.2 48), .int (-4), .int (-4)]) := rfl
  have e47 : g.2.2 47 = h + 58 := hg 47 (by decide)
  have e48 : g.2.2 48 = h + 59 := hg 48 (by decide)
  rw [e, e47, e48]
  exact tlP hP 57 (get_l (get_l (get_l (get_o (n := 57) (i := 0) (by simp [wA_len, wP_len, tl_0, tl_1, tl_2, tl_3, tl_4, mxW]) rfl))))
set_option maxRecDepth 20000 in
theorem cc_48 {g : Gh} {h : Nat} {H : Heap} (hg : ∀ k, k < 79 → g.2.2 k = h + pm k) (hP : va_P g.1 vwCl ((h, eF_5 g (h + 1)) :: tl_5 g (h + 1)) H) : va_at g.1 vwCl (g.2.2 48, pic g mu0 48) H := by
  have e : pic g mu0 48 = .inl (g.2.1 0, 40, .inl (fun _ => 0)) := by
    have i0 : iarr mu0 48 = fun _ => 0 := funext (fun j => by show Int32.ofInt (rI mu0 48 j) = 0; rw [muA_0 j (by decide)]; rfl)
    rw [← i0]
    exact pic_7 g mu0 (by decide)
  have e48 : g.2.2 48 = h + 59 := hg 48 (by decide)
  rw [e, e48]
  exact tlP hP 58 (get_l (get_l (get_l (get_o (n := 57) (i := 1) (by simp [wA_len, wP_len, tl_0, tl_1, tl_2, tl_3, tl_4, mxW]) rfl))))
set_option maxRecDepth 20000 in
theorem cc_49 {g : Gh} {h : Nat} {H : Heap} (hg : ∀ k, k < 79 → g.2.2 k = h + pm k) (hP : va_P g.1 vwCl ((h, eF_5 g (h + 1)) :: tl_5 g (h + 1)) H) : va_at g.1 vwCl (g.2.2 49, pic g mu0 49) H := by
  have e : pic g mu0 49 = .inr (3, [.ref (g.2.2 50), .int (-4), .int (-4)]) := rfl
  have e49 : g.2.2 49 = h + 60 := hg 49 (by decide)
  have e50 : g.2.2 50 = h + 61 := hg 50 (by decide)
  rw [e, e49, e50]
  exact tlP hP 59 (get_l (get_l (get_o (n := 59) (i := 0) (by simp [wA_len, wP_len, tl_0, tl_1, tl_2, tl_3, tl_4, mxW]) rfl)))
set_option maxRecDepth 20000 in
theorem cc_50 {g : Gh} {h : Nat} {H : Heap} (hg : ∀ k, k < 79 → g.2.2 k = h + pm k) (hP : va_P g.1 vwCl ((h, eF_5 g (h + 1)) :: tl_5 g (h + 1)) H) : va_at g.1 vwCl (g.2.2 50, pic g mu0 50) H := by
  have e : pic g mu0 50 = .inl (g.2.1 0, 40, .inl (fun _ => 0)) := by
    have i0 : iarr mu0 50 = fun _ => 0 := funext (fun j => by show Int32.ofInt (rI mu0 50 j) = 0; rw [muA_0 j (by decide)]; rfl)
    rw [← i0]
    exact pic_7 g mu0 (by decide)
  have e50 : g.2.2 50 = h + 61 := hg 50 (by decide)
  rw [e, e50]
  exact tlP hP 60 (get_l (get_l (get_o (n := 59) (i := 1) (by simp [wA_len, wP_len, tl_0, tl_1, tl_2, tl_3, tl_4, mxW]) rfl)))
set_option maxRecDepth 20000 in
theorem cc_51 {g : Gh} {h : Nat} {H : Heap} (hg : ∀ k, k < 79 → g.2.2 k = h + pm k) (hP : va_P g.1 vwCl ((h, eF_5 g (h + 1)) :: tl_5 g (h + 1)) H) : va_at g.1 vwCl (g.2.2 51, pic g mu0 51) H := by
  have e : pic g mu0 51 = .inr (3, [.ref (g.2.2 52), .int (-4), .int (-4)]) := rfl
  have e51 : g.2.2 51 = h + 62 := hg 51 (by decide)
  have e52 : g.2.2 52 = h + 63 := hg 52 (by decide)
  rw [e, e51, e52]
  exact tlP hP 61 (get_l (get_o (n := 61) (i := 0) (by simp [wA_len, wP_len, tl_0, tl_1, tl_2, tl_3, tl_4, mxW]) rfl))
set_option maxRecDepth 20000 in
theorem cc_52 {g : Gh} {h : Nat} {H : Heap} (hg : ∀ k, k < 79 → g.2.2 k = h + pm k) (hP : va_P g.1 vwCl ((h, eF_5 g (h + 1)) :: tl_5 g (h + 1)) H) : va_at g.1 vwCl (g.2.2 52, pic g mu0 52) H := by
  have e : pic g mu0 52 = .inl (g.2.1 0, 40, .inl (fun _ => 0)) := by
    have i0 : iarr mu0 52 = fun _ => 0 := funext (fun j => by show Int32.ofInt (rI mu0 52 j) = 0; rw [muA_0 j (by decide)]; rfl)
    rw [← i0]
    exact pic_7 g mu0 (by decide)
  have e52 : g.2.2 52 = h + 63 := hg 52 (by decide)
  rw [e, e52]
  exact tlP hP 62 (get_l (get_o (n := 61) (i := 1) (by simp [wA_len, wP_len, tl_0, tl_1, tl_2, tl_3, tl_4, mxW]) rfl))
set_option maxRecDepth 20000 in
theorem cc_53 {g : Gh} {h : Nat} {H : Heap} (hg : ∀ k, k < 79 → g.2.2 k = h + pm k) (hP : va_P g.1 vwCl ((h, eF_5 g (h + 1)) :: tl_5 g (h + 1)) H) : va_at g.1 vwCl (g.2.2 53, pic g mu0 53) H := by
  have e : pic g mu0 53 = .inr (3, [.ref (g.2.2 54), .int (-4), .int (-4)]) := rfl
  have e53 : g.2.2 53 = h + 64 := hg 53 (by decide)
  have e54 : g.2.2 54 = h + 65 := hg 54 (by decide)
  rw [e, e53, e54]
  exact tlP hP 63 (get_o (n := 63) (i := 0) (by simp [wA_len, wP_len, tl_0, tl_1, tl_2, tl_3, tl_4, mxW]) rfl)
set_option maxRecDepth 20000 in
theorem cc_54 {g : Gh} {h : Nat} {H : Heap} (hg : ∀ k, k < 79 → g.2.2 k = h + pm k) (hP : va_P g.1 vwCl ((h, eF_5 g (h + 1)) :: tl_5 g (h + 1)) H) : va_at g.1 vwCl (g.2.2 54, pic g mu0 54) H := by
  have e : pic g mu0 54 = .inl (g.2.1 0, 40, .inl (fun _ => 0)) := by
    have i0 : iarr mu0 54 = fun _ => 0 := funext (fun j => by show Int32.ofInt (rI mu0 54 j) = 0; rw [muA_0 j (by decide)]; rfl)
    rw [← i0]
    exact pic_7 g mu0 (by decide)
  have e54 : g.2.2 54 = h + 65 := hg 54 (by decide)
  rw [e, e54]
  exact tlP hP 64 (get_o (n := 63) (i := 1) (by simp [wA_len, wP_len, tl_0, tl_1, tl_2, tl_3, tl_4, mxW]) rfl)
set_option maxRecDepth 20000 in
theorem cc_55 {g : Gh} {h : Nat} {H : Heap} (hg : ∀ k, k < 79 → g.2.2 k = h + pm k) (hP : va_P g.1 vwCl ((h, eF_5 g (h + 1)) :: tl_5 g (h + 1)) H) : va_at g.1 vwCl (g.2.2 55, pic g mu0 55) H := by
  have e : pic g mu0 55 = .inl (g.2.1 5, 10, .inr (.inr (.inr (.inr (rarr g.2.2 mu0 55))))) := rfl
  have e55 : g.2.2 55 = h + 23 := hg 55 (by decide)
  rw [e, e55]
  have q : H[h + 23]? = some (vp_cell (g.2.1 5) (10, .inr (.inr (.inr (.inr (fun j => some (h + 23 + 1 + j))))))) := tlP hP 22 (get_l (get_l (get_l (get_l (get_l (get_l (get_o (n := 22) (i := 0) (by simp [wA_len, wP_len, tl_0, tl_1, tl_2, tl_3, tl_4, mxW]) rfl)))))))
  show H[h + 23]? = some (vp_cell (g.2.1 5) (10, .inr (.inr (.inr (.inr (rarr g.2.2 mu0 55))))))
  rw [q]
  refine congrArg some (vq_cg _ (fun j hj => ?_))
  rcases (show j = 0 ∨ j = 1 ∨ j = 2 ∨ j = 3 ∨ j = 4 ∨ j = 5 ∨ j = 6 ∨ j = 7 ∨ j = 8 ∨ j = 9 by omega) with rfl | rfl | rfl | rfl | rfl | rfl | rfl | rfl | rfl | rfl
  · exact congrArg some (hg 56 (by decide)).symm
  · exact congrArg some (hg 57 (by decide)).symm
  · exact congrArg some (hg 58 (by decide)).symm
  · exact congrArg some (hg 59 (by decide)).symm
  · exact congrArg some (hg 60 (by decide)).symm
  · exact congrArg some (hg 61 (by decide)).symm
  · exact congrArg some (hg 62 (by decide)).symm
  · exact congrArg some (hg 63 (by decide)).symm
  · exact congrArg some (hg 64 (by decide)).symm
  · exact congrArg some (hg 65 (by decide)).symm
set_option maxRecDepth 20000 in
theorem cc_56 {g : Gh} {h : Nat} {H : Heap} (hg : ∀ k, k < 79 → g.2.2 k = h + pm k) (hP : va_P g.1 vwCl ((h, eF_5 g (h + 1)) :: tl_5 g (h + 1)) H) : va_at g.1 vwCl (g.2.2 56, pic g mu0 56) H := by
  have e : pic g mu0 56 = .inl (g.2.1 0, 41, .inl (fun _ => 0)) := by
    have i0 : iarr mu0 56 = fun _ => 0 := funext (fun j => by show Int32.ofInt (rI mu0 56 j) = 0; rw [muA_0 j (by decide)]; rfl)
    rw [← i0]
    exact pic_7 g mu0 (by decide)
  have e56 : g.2.2 56 = h + 24 := hg 56 (by decide)
  rw [e, e56]
  exact tlP hP 23 (get_l (get_l (get_l (get_l (get_l (get_l (get_o (n := 22) (i := 1) (by simp [wA_len, wP_len, tl_0, tl_1, tl_2, tl_3, tl_4, mxW]) rfl)))))))
set_option maxRecDepth 20000 in
theorem cc_57 {g : Gh} {h : Nat} {H : Heap} (hg : ∀ k, k < 79 → g.2.2 k = h + pm k) (hP : va_P g.1 vwCl ((h, eF_5 g (h + 1)) :: tl_5 g (h + 1)) H) : va_at g.1 vwCl (g.2.2 57, pic g mu0 57) H := by
  have e : pic g mu0 57 = .inl (g.2.1 0, 41, .inl (fun _ => 0)) := by
    have i0 : iarr mu0 57 = fun _ => 0 := funext (fun j => by show Int32.ofInt (rI mu0 57 j) = 0; rw [muA_0 j (by decide)]; rfl)
    rw [← i0]
    exact pic_7 g mu0 (by decide)
  have e57 : g.2.2 57 = h + 25 := hg 57 (by decide)
  rw [e, e57]
  exact tlP hP 24 (get_l (get_l (get_l (get_l (get_l (get_l (get_o (n := 22) (i := 2) (by simp [wA_len, wP_len, tl_0, tl_1, tl_2, tl_3, tl_4, mxW]) rfl)))))))
set_option maxRecDepth 20000 in
theorem cc_58 {g : Gh} {h : Nat} {H : Heap} (hg : ∀ k, k < 79 → g.2.2 k = h + pm k) (hP : va_P g.1 vwCl ((h, eF_5 g (h + 1)) :: tl_5 g (h + 1)) H) : va_at g.1 vwCl (g.2.2 58, pic g mu0 58) H := by
  have e : pic g mu0 58 = .inl (g.2.1 0, 41, .inl (fun _ => 0)) := by
    have i0 : iarr mu0 58 = fun _ => 0 := funext (fun j => by show Int32.ofInt (rI mu0 58 j) = 0; rw [muA_0 j (by decide)]; rfl)
    rw [← i0]
    exact pic_7 g mu0 (by decide)
  have e58 : g.2.2 58 = h + 26 := hg 58 (by decide)
  rw [e, e58]
  exact tlP hP 25 (get_l (get_l (get_l (get_l (get_l (get_l (get_o (n := 22) (i := 3) (by simp [wA_len, wP_len, tl_0, tl_1, tl_2, tl_3, tl_4, mxW]) rfl)))))))
set_option maxRecDepth 20000 in
theorem cc_59 {g : Gh} {h : Nat} {H : Heap} (hg : ∀ k, k < 79 → g.2.2 k = h + pm k) (hP : va_P g.1 vwCl ((h, eF_5 g (h + 1)) :: tl_5 g (h + 1)) H) : va_at g.1 vwCl (g.2.2 59, pic g mu0 59) H := by
  have e : pic g mu0 59 = .inl (g.2.1 0, 41, .inl (fun _ => 0)) := by
    have i0 : iarr mu0 59 = fun _ => 0 := funext (fun j => by show Int32.ofInt (rI mu0 59 j) = 0; rw [muA_0 j (by decide)]; rfl)
    rw [← i0]
    exact pic_7 g mu0 (by decide)
  have e59 : g.2.2 59 = h + 27 := hg 59 (by decide)
  rw [e, e59]
  exact tlP hP 26 (get_l (get_l (get_l (get_l (get_l (get_l (get_o (n := 22) (i := 4) (by simp [wA_len, wP_len, tl_0, tl_1, tl_2, tl_3, tl_4, mxW]) rfl)))))))
set_option maxRecDepth 20000 in
theorem cc_60 {g : Gh} {h : Nat} {H : Heap} (hg : ∀ k, k < 79 → g.2.2 k = h + pm k) (hP : va_P g.1 vwCl ((h, eF_5 g (h + 1)) :: tl_5 g (h + 1)) H) : va_at g.1 vwCl (g.2.2 60, pic g mu0 60) H := by
  have e : pic g mu0 60 = .inl (g.2.1 0, 41, .inl (fun _ => 0)) := by
    have i0 : iarr mu0 60 = fun _ => 0 := funext (fun j => by show Int32.ofInt (rI mu0 60 j) = 0; rw [muA_0 j (by decide)]; rfl)
    rw [← i0]
    exact pic_7 g mu0 (by decide)
  have e60 : g.2.2 60 = h + 28 := hg 60 (by decide)
  rw [e, e60]
  exact tlP hP 27 (get_l (get_l (get_l (get_l (get_l (get_l (get_o (n := 22) (i := 5) (by simp [wA_len, wP_len, tl_0, tl_1, tl_2, tl_3, tl_4, mxW]) rfl)))))))
set_option maxRecDepth 20000 in
theorem cc_61 {g : Gh} {h : Nat} {H : Heap} (hg : ∀ k, k < 79 → g.2.2 k = h + pm k) (hP : va_P g.1 vwCl ((h, eF_5 g (h + 1)) :: tl_5 g (h + 1)) H) : va_at g.1 vwCl (g.2.2 61, pic g mu0 61) H := by
  have e : pic g mu0 61 = .inl (g.2.1 0, 41, .inl (fun _ => 0)) := by
    have i0 : iarr mu0 61 = fun _ => 0 := funext (fun j => by show Int32.ofInt (rI mu0 61 j) = 0; rw [muA_0 j (by decide)]; rfl)
    rw [← i0]
    exact pic_7 g mu0 (by decide)
  have e61 : g.2.2 61 = h + 29 := hg 61 (by decide)
  rw [e, e61]
  exact tlP hP 28 (get_l (get_l (get_l (get_l (get_l (get_l (get_o (n := 22) (i := 6) (by simp [wA_len, wP_len, tl_0, tl_1, tl_2, tl_3, tl_4, mxW]) rfl)))))))
set_option maxRecDepth 20000 in
theorem cc_62 {g : Gh} {h : Nat} {H : Heap} (hg : ∀ k, k < 79 → g.2.2 k = h + pm k) (hP : va_P g.1 vwCl ((h, eF_5 g (h + 1)) :: tl_5 g (h + 1)) H) : va_at g.1 vwCl (g.2.2 62, pic g mu0 62) H := by
  have e : pic g mu0 62 = .inl (g.2.1 0, 41, .inl (fun _ => 0)) := by
    have i0 : iarr mu0 62 = fun _ => 0 := funext (fun j => by show Int32.ofInt (rI mu0 62 j) = 0; rw [muA_0 j (by decide)]; rfl)
    rw [← i0]
    exact pic_7 g mu0 (by decide)
  have e62 : g.2.2 62 = h + 30 := hg 62 (by decide)
  rw [e, e62]
  exact tlP hP 29 (get_l (get_l (get_l (get_l (get_l (get_l (get_o (n := 22) (i := 7) (by simp [wA_len, wP_len, tl_0, tl_1, tl_2, tl_3, tl_4, mxW]) rfl)))))))
set_option maxRecDepth 20000 in
theorem cc_63 {g : Gh} {h : Nat} {H : Heap} (hg : ∀ k, k < 79 → g.2.2 k = h + pm k) (hP : va_P g.1 vwCl ((h, eF_5 g (h + 1)) :: tl_5 g (h + 1)) H) : va_at g.1 vwCl (g.2.2 63, pic g mu0 63) H := by
  have e : pic g mu0 63 = .inl (g.2.1 0, 41, .inl (fun _ => 0)) := by
    have i0 : iarr mu0 63 = fun _ => 0 := funext (fun j => by show Int32.ofInt (rI mu0 63 j) = 0; rw [muA_0 j (by decide)]; rfl)
    rw [← i0]
    exact pic_7 g mu0 (by decide)
  have e63 : g.2.2 63 = h + 31 := hg 63 (by decide)
  rw [e, e63]
  exact tlP hP 30 (get_l (get_l (get_l (get_l (get_l (get_l (get_o (n := 22) (i := 8) (by simp [wA_len, wP_len, tl_0, tl_1, tl_2, tl_3, tl_4, mxW]) rfl)))))))
set_option maxRecDepth 20000 in
theorem cc_64 {g : Gh} {h : Nat} {H : Heap} (hg : ∀ k, k < 79 → g.2.2 k = h + pm k) (hP : va_P g.1 vwCl ((h, eF_5 g (h + 1)) :: tl_5 g (h + 1)) H) : va_at g.1 vwCl (g.2.2 64, pic g mu0 64) H := by
  have e : pic g mu0 64 = .inl (g.2.1 0, 41, .inl (fun _ => 0)) := by
    have i0 : iarr mu0 64 = fun _ => 0 := funext (fun j => by show Int32.ofInt (rI mu0 64 j) = 0; rw [muA_0 j (by decide)]; rfl)
    rw [← i0]
    exact pic_7 g mu0 (by decide)
  have e64 : g.2.2 64 = h + 32 := hg 64 (by decide)
  rw [e, e64]
  exact tlP hP 31 (get_l (get_l (get_l (get_l (get_l (get_l (get_o (n := 22) (i := 9) (by simp [wA_len, wP_len, tl_0, tl_1, tl_2, tl_3, tl_4, mxW]) rfl)))))))
set_option maxRecDepth 20000 in
theorem cc_65 {g : Gh} {h : Nat} {H : Heap} (hg : ∀ k, k < 79 → g.2.2 k = h + pm k) (hP : va_P g.1 vwCl ((h, eF_5 g (h + 1)) :: tl_5 g (h + 1)) H) : va_at g.1 vwCl (g.2.2 65, pic g mu0 65) H := by
  have e : pic g mu0 65 = .inl (g.2.1 0, 41, .inl (fun _ => 0)) := by
    have i0 : iarr mu0 65 = fun _ => 0 := funext (fun j => by show Int32.ofInt (rI mu0 65 j) = 0; rw [muA_0 j (by decide)]; rfl)
    rw [← i0]
    exact pic_7 g mu0 (by decide)
  have e65 : g.2.2 65 = h + 33 := hg 65 (by decide)
  rw [e, e65]
  exact tlP hP 32 (get_l (get_l (get_l (get_l (get_l (get_l (get_o (n := 22) (i := 10) (by simp [wA_len, wP_len, tl_0, tl_1, tl_2, tl_3, tl_4, mxW]) rfl)))))))
