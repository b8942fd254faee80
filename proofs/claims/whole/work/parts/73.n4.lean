/-! the constructor of the reference -/
def GL_X6_init : List (Nat × Nat × Bool × TT) := [(47, 1, false, T6_firstDraft), (50, 1, false, T6_keepDraft)]
def G_X6_init : Nat → Option (Nat × Bool × TT) := fun i => GL_X6_init.lookup i
theorem G_X6_init_47 : G_X6_init 47 = some (1, false, T6_firstDraft) := rfl
theorem G_X6_init_50 : G_X6_init 50 = some (1, false, T6_keepDraft) := rfl

theorem gk_X6_init (l : Launch) : ∀ i n b T, G_X6_init i = some (n, b, T) → CallOK l 1 RX6 i n b T := by
  intro i n b T h
  have hm : (i, n, b, T) ∈ GL_X6_init := lk_mem h
  simp only [GL_X6_init, List.mem_cons, List.not_mem_nil, or_false, Prod.mk.injEq] at hm
  rcases hm with ⟨rfl, rfl, rfl, rfl⟩ | ⟨rfl, rfl, rfl, rfl⟩
  · exact CallOK.V (d := 1) (own := RX6) (i := 47) (n := 0) (ci := 6) (good_X6_firstDraft l) (by decide) (by decide) rfl (by decide) rec_X6_firstDraft (mg 603 (by decide +kernel) (by decide +kernel)) (mg 605 (by decide +kernel) (by decide +kernel)) (mgs 23 (by decide +kernel) (by decide +kernel)) (mg 7 (by decide +kernel) (by decide +kernel)) (mg 606 (by decide +kernel) (by decide +kernel)) (by decide +kernel)
  · exact CallOK.V (d := 1) (own := RX6) (i := 50) (n := 0) (ci := 6) (good_X6_keepDraft l) (by decide) (by decide) rfl (by decide) rec_X6_keepDraft (mg 607 (by decide +kernel) (by decide +kernel)) (mg 609 (by decide +kernel) (by decide +kernel)) (mgs 24 (by decide +kernel) (by decide +kernel)) (mg 7 (by decide +kernel) (by decide +kernel)) (mg 610 (by decide +kernel) (by decide +kernel)) (by decide +kernel)

def mu0 : Mem := (fun a b => if (a = 1 ∨ a = 8 ∨ a = 23 ∨ a = 35) ∧ b = 2 then -4 else if (a = 47 ∨ a = 49 ∨ a = 51 ∨ a = 53) ∧ (b = 1 ∨ b = 2) then -4 else 0, fun a b => a + 1 + b)
def fzD (μ : Mem) : Mem := wI (wB (wI (wI (wI (wI μ 75 0 (-4)) 75 1 (-4)) 75 2 (-4)) 75 3 (-4)) 70 60 (fun _ => 0)) 66 4 0
def fz (μ : Mem) : Mem := wI (wI (wB (fzD μ) 67 60 (rI (fzD μ) 70)) 69 0 0) 69 1 0
set_option maxRecDepth 20000 in
set_option maxHeartbeats 4000000 in
theorem b_mi101 (V : Nat → List (Option AV) → List AV → Mem → Prop) (K : List AV → Mem → Prop) (hV : Clos FX6 CX6 G_X6_init 0 K cX6_init V) (μ : Mem) (hk : K [] (fz μ)) : V 101 [some (.inr (.inr 66)), none] [] μ := by
  unfold fz fzD at hk
  apply hV [] 80
  simp only [InR, InL, inb, Int.toNat_natCast, wp1, wpc_z, wpc_s, stp_iconst, stp_bipush, stp_sipush, stp_lconst, stp_iload_n, stp_iload, stp_lload_n, stp_lload, stp_aload_n, stp_aload, stp_istore_n, stp_istore, stp_lstore_n, stp_lstore, stp_astore_n, stp_astore, stp_iinc, stp_iadd, stp_isub, stp_imul, stp_ineg, stp_idiv, stp_irem, stp_ladd, stp_lmul, stp_ldiv, stp_lrem, stp_ishl, stp_ishr, stp_iushr, stp_iand, stp_ior, stp_i2l, stp_i2b, stp_i2s, stp_lcmp, stp_dup, stp_dup2, stp_pop, stp_ifCond, stp_if_icmp, stp_goto, stp_tableswitch, stp_lookupswitch, stp_ldc, stp_ldc_w, stp_ldc2_w, stp_getstatic, stp_getfield, stp_putfield, stp_iaload, stp_baload, stp_iastore, stp_bastore, stp_aaload, stp_aastore, stp_invokevirtual, stp_invokestatic, stp_ireturn, stp_lreturn, stp_return_, lg, lset, okl, spl, wd, c1, cnd, tg, swT, swL, f4_0, f4_1, f4_2, f4_3, f2_0, f2_1, List.mem_cons, List.not_mem_nil, List.length_cons, List.length_nil, List.cons_append, List.nil_append, Nat.reduceAdd, Nat.reduceMul, Nat.reduceLT, Nat.reduceEqDiff, Nat.reduceLeDiff, Int.reduceAdd, Int.reduceNeg, Int.reduceToNat, Int.cast_ofNat_Int, Int.reduceNatCast, Int.toNat_zero, Int.toNat_one, Int.reduceLE, Int.reduceLT, Int.reduceEq, Int.zero_add, Int.add_zero, or_false, false_or, or_true, true_or, and_true, true_and, and_false, false_and, reduceIte, not_true_eq_false, not_false_eq_true, forall_const, false_implies, true_implies, implies_true, ne_eq, reduceCtorEq, List.all_cons, List.all_nil, Bool.and_true, Bool.and_self, decide_eq_true_eq, decide_true, dX6_init_0, dX6_init_1, dX6_init_4, dX6_init_5, dX6_init_8, dX6_init_10, dX6_init_13, dX6_init_14, dX6_init_16, dX6_init_18, dX6_init_21, dX6_init_22, dX6_init_23, dX6_init_25, dX6_init_28, dX6_init_29, dX6_init_31, dX6_init_33, dX6_init_36, dX6_init_37, dX6_init_40, dX6_init_42, dX6_init_45, dX6_init_46, dX6_init_47, dX6_init_49, dX6_init_52, dX6_init_53, dX6_init_56, dX6_init_58, dX6_init_61, dX6_init_62, dX6_init_65, dX6_init_67, dX6_init_70, dX6_init_71, dX6_init_72, dX6_init_74, dX6_init_77, dX6_init_78, dX6_init_79, dX6_init_81, dX6_init_84, dX6_init_85, dX6_init_88, dX6_init_90, dX6_init_93, dX6_init_94, dX6_init_96, dX6_init_98, dX6_init_101, dX6_init_102, dX6_init_103, dX6_init_104, dX6_init_105, dX6_init_108, dX6_init_109, dX6_init_112, dX6_init_113, dX6_init_115, dX6_init_116, dX6_init_119, dX6_init_122, dX6_init_123, dX6_init_126, dX6_init_127, dX6_init_130, FX6_7, FX6_13, FX6_16, FX6_20, FX6_23, FX6_26, FX6_29, FX6_32, FX6_35, FX6_38, FX6_41, FX6_44, G_X6_init_47, G_X6_init_50, kd_66, kd_75, ln_75, T6_firstDraft, T6_keepDraft]
  repeat' (first | exact trivial | omega | (with_reducible assumption) | exact absurd trivial (by with_reducible assumption) | contradiction | apply And.intro | intro _)
def eM0 : va_E := .inr (6, [.null, .null, .null, .null, .int 0, .null, .int 0, .int 0, .int 0, .int 0, .int 0, .int 0, .int 0, .int 0, .int 0, .int 0, .int 0, .null, .int 0, .int 0, .long 0, .long 0, .long 0, .null, .null, .null, .null, .null, .int 0, .null])
def eF_6 (z : Nat) : va_E := .inr (6, [.ref (z), .ref (z + 1), .ref (z + 2), .ref (z + 3), .int 0, .ref (z + 4), .int 0, .int 0, .int 0, .int 0, .int 0, .int 0, .int 0, .int 0, .int 0, .int 0, .int 0, .ref (z + 5), .int 0, .int 0, .long 0, .long 0, .long 0, .ref (z + 6), .ref (z + 7), .ref (z + 8), .ref (z + 9), .ref (z + 10), .int 0, .ref (z + 11)])
def tl_6 (g : Gh) (z : Nat) : va_W := [(z, .inl (g.2.1 0, 180, .inl (fun _ => 0))), (z + 1, .inl (g.2.1 0, 60, .inl (fun _ => 0))), (z + 2, .inl (g.2.1 2, 2, .inl (fun _ => 0))), (z + 3, .inl (g.2.1 0, 60, .inl (fun _ => 0))), (z + 4, .inl (g.2.1 0, 160, .inl (fun _ => 0))), (z + 5, .inl (g.2.1 0, 5, .inl (fun _ => 0))), (z + 6, .inl (g.2.1 0, 205, .inl (fun _ => 0))), (z + 7, .inl (g.2.1 0, 410, .inl (fun _ => 0))), (z + 8, .inl (g.2.1 0, 4, .inl (fun _ => 0))), (z + 9, .inl (g.2.1 0, 4, .inl (fun _ => 0))), (z + 10, .inl (g.2.1 0, 160, .inl (fun _ => 0))), (z + 11, .inl (g.2.1 0, 60, .inl (fun _ => 0)))]
/-- the places of the class lie below, those of the reference one behind another -/
def GA (g : Gh) (sz : Nat) : Prop := Inj g ∧ (∀ k, k < 66 → g.2.2 k < g.2.2 66) ∧ ∀ i, i < 13 → g.2.2 (66 + i) + 1 = sz + i
def A2x (g : Gh) (sz : Nat) : Nat → Prop := fun q => inW g q ∨ sz ≤ q
theorem pic_66 (g : Gh) {sz : Nat} (h : ∀ i, i < 13 → g.2.2 (66 + i) + 1 = sz + i) : pic g mu0 66 = eF_6 sz := by
  have e67 : g.2.2 67 = sz := by have := h 1 (by decide); simp only [Nat.reduceAdd] at this; omega
  have e68 : g.2.2 68 = sz + 1 := by have := h 2 (by decide); simp only [Nat.reduceAdd] at this; omega
  have e69 : g.2.2 69 = sz + 2 := by have := h 3 (by decide); simp only [Nat.reduceAdd] at this; omega
  have e70 : g.2.2 70 = sz + 3 := by have := h 4 (by decide); simp only [Nat.reduceAdd] at this; omega
  have e71 : g.2.2 71 = sz + 4 := by have := h 5 (by decide); simp only [Nat.reduceAdd] at this; omega
  have e72 : g.2.2 72 = sz + 5 := by have := h 6 (by decide); simp only [Nat.reduceAdd] at this; omega
  have e73 : g.2.2 73 = sz + 6 := by have := h 7 (by decide); simp only [Nat.reduceAdd] at this; omega
  have e74 : g.2.2 74 = sz + 7 := by have := h 8 (by decide); simp only [Nat.reduceAdd] at this; omega
  have e75 : g.2.2 75 = sz + 8 := by have := h 9 (by decide); simp only [Nat.reduceAdd] at this; omega
  have e76 : g.2.2 76 = sz + 9 := by have := h 10 (by decide); simp only [Nat.reduceAdd] at this; omega
  have e77 : g.2.2 77 = sz + 10 := by have := h 11 (by decide); simp only [Nat.reduceAdd] at this; omega
  have e78 : g.2.2 78 = sz + 11 := by have := h 12 (by decide); simp only [Nat.reduceAdd] at this; omega
  have e : pic g mu0 66 = .inr (6, [.ref (g.2.2 67), .ref (g.2.2 68), .ref (g.2.2 69), .ref (g.2.2 70), .int 0, .ref (g.2.2 71), .int 0, .int 0, .int 0, .int 0, .int 0, .int 0, .int 0, .int 0, .int 0, .int 0, .int 0, .ref (g.2.2 72), .int 0, .int 0, .long 0, .long 0, .long 0, .ref (g.2.2 73), .ref (g.2.2 74), .ref (g.2.2 75), .ref (g.2.2 76), .ref (g.2.2 77), .int 0, .ref (g.2.2 78)]) := rfl
  rw [e, e67, e68, e69, e70, e71, e72, e73, e74, e75, e76, e77, e78]
  rfl
theorem wl_66 {g : Gh} {sz : Nat} {H : Heap} (hG : GA g sz) (hA : ∀ k, k < 66 → va_at g.1 vwCl (g.2.2 k, pic g mu0 k) H) (hP : va_P g.1 vwCl ((g.2.2 66, eF_6 sz) :: tl_6 g sz) H) : va_P g.1 vwCl (wl g mu0) H := by
  intro i q hq
  have hlt : i < 79 := by
    have := (List.getElem?_eq_some_iff.mp hq).1
    rw [wl_len] at this
    exact this
  rw [wl_get g mu0 hlt] at hq
  cases hq
  by_cases z : i < 66
  · exact hA i z
  · have h66 := pic_66 g hG.2.2
    have e67 : g.2.2 67 = sz := by have := hG.2.2 1 (by decide); simp only [Nat.reduceAdd] at this; omega
    have e68 : g.2.2 68 = sz + 1 := by have := hG.2.2 2 (by decide); simp only [Nat.reduceAdd] at this; omega
    have e69 : g.2.2 69 = sz + 2 := by have := hG.2.2 3 (by decide); simp only [Nat.reduceAdd] at this; omega
    have e70 : g.2.2 70 = sz + 3 := by have := hG.2.2 4 (by decide); simp only [Nat.reduceAdd] at this; omega
    have e71 : g.2.2 71 = sz + 4 := by have := hG.2.2 5 (by decide); simp only [Nat.reduceAdd] at this; omega
    have e72 : g.2.2 72 = sz + 5 := by have := hG.2.2 6 (by decide); simp only [Nat.reduceAdd] at this; omega
    have e73 : g.2.2 73 = sz + 6 := by have := hG.2.2 7 (by decide); simp only [Nat.reduceAdd] at this; omega
    have e74 : g.2.2 74 = sz + 7 := by have := hG.2.2 8 (by decide); simp only [Nat.reduceAdd] at this; omega
    have e75 : g.2.2 75 = sz + 8 := by have := hG.2.2 9 (by decide); simp only [Nat.reduceAdd] at this; omega
    have e76 : g.2.2 76 = sz + 9 := by have := hG.2.2 10 (by decide); simp only [Nat.reduceAdd] at this; omega
    have e77 : g.2.2 77 = sz + 10 := by have := hG.2.2 11 (by decide); simp only [Nat.reduceAdd] at this; omega
    have e78 : g.2.2 78 = sz + 11 := by have := hG.2.2 12 (by decide); simp only [Nat.reduceAdd] at this; omega
    rcases (show i = 66 ∨ i = 67 ∨ i = 68 ∨ i = 69 ∨ i = 70 ∨ i = 71 ∨ i = 72 ∨ i = 73 ∨ i = 74 ∨ i = 75 ∨ i = 76 ∨ i = 77 ∨ i = 78 by omega) with rfl | rfl | rfl | rfl | rfl | rfl | rfl | rfl | rfl | rfl | rfl | rfl | rfl
    · rw [h66]; exact hP 0 _ rfl
    · rw [e67]; exact hP 1 _ rfl
    · rw [e68]; exact hP 2 _ rfl
    · rw [e69]; exact hP 3 _ rfl
    · rw [e70]; exact hP 4 _ rfl
    · rw [e71]; exact hP 5 _ rfl
    · rw [e72]; exact hP 6 _ rfl
    · rw [e73]; exact hP 7 _ rfl
    · rw [e74]; exact hP 8 _ rfl
    · rw [e75]; exact hP 9 _ rfl
    · rw [e76]; exact hP 10 _ rfl
    · rw [e77]; exact hP 11 _ rfl
    · rw [e78]; exact hP 12 _ rfl
def PreX (g : Gh) (sz : Nat) : Array Value → State → Prop := va_Pc [.ref (g.2.2 66)] (fun U => U.heap.size = sz ∧ (∀ k, k < 66 → va_at g.1 vwCl (g.2.2 k, pic g mu0 k) U.heap) ∧ va_P g.1 vwCl [(g.2.2 66, eM0)] U.heap ∧ XC g U ∧ ST g (A2x g sz) U U.heap)
def QX (g : Gh) (sz : Nat) : Array Value → State → Outcome → State → Prop := va_Qv (fun _ : Unit => True) (fun _ t => va_P g.1 vwCl (wl g (fz mu0)) t.heap) (A2x g sz)
theorem PreX.blind {g : Gh} {sz : Nat} : FrameBlind (PreX g sz) := by
  intro a U g' mk h
  obtain ⟨q0, q1, q2, q3, q4, q5⟩ := h
  exact ⟨q0, q1, q2, q3, XC.same (u := U) (U := U.calling g' mk a) rfl q4, ST.same (u := U) (U := U.calling g' mk a) rfl q5⟩
theorem va_S.wk {A B : Nat → Prop} {H0 H : Heap} {locs : List Loc} (h : va_S A H0 H locs) (hAB : ∀ q, A q → B q) : va_S B H0 H locs := ⟨h.1, fun q h1 h2 => h.2.1 q h1 (fun z => h2 (hAB q z)), fun q hq => hAB _ (h.2.2 q hq)⟩
set_option maxRecDepth 20000 in
set_option maxHeartbeats 4000000 in
theorem mi_6 (l : Launch) {g : Gh} {sz : Nat} (hG : GA g sz) : Met l yX6_init (Jvm.Cond.code yX6_init cX6_init 2 none :: gtb) (rmi 1 12 1310) (PreX g sz) (QX g sz) 12 1310 (A2x g sz) := by
  refine Met.ofW (cc := cX6_init) (maxL := 2) (ret := none) (by decide) rfl ?_
  intro p e s m args below meth c s₁ B hml hv
  obtain ⟨rfl, hz, hcl, hP0, hX, hST⟩ := hv
  have hts0 := atoms_spec (ws := Jvm.Cond.code yX6_init cX6_init 2 none :: gtb) B.pre
  have hts : ∀ w ∈ gtb, w.before #[Value.ref (g.2.2 66)] s = true := fun w hw => hts0 w (List.mem_cons_of_mem _ hw)
  have hown : s.vm.findClass RX6 = some m.cls := findClass_of_methodNamed B.named
  have hlocks := B.notSynchronized
  have hx := B.exec
  have hb := B.bytes
  have S : CallFix p m c cX6_init 2 s #[Value.ref (g.2.2 66)] gtb RX6 := ⟨hx, hb, hml, hown, hts⟩
  have hin : meth.name = "<init>" := (name_of_methodNamed B.named B.method).1
  have h66 : g.2.2 66 + 1 = sz := hG.2.2 0 (by decide)
  have hl := lv_entry ([.ref (g.2.2 66)]) (n := 2) (Nat.le_of_ble_eq_true rfl)
  rw [lg_entry_eq]
  generalize (lg_sl ([.ref (g.2.2 66)]) ++ List.replicate (2 - (lg_sl ([.ref (g.2.2 66)])).length) Slot.unset).toArray = ls at hl ⊢
  have hl : lv_has ls 2 [(0, .ref (g.2.2 66))] := hl
  have hC : CWd g (Fr (g.2.2 66) sz) s (g.2.2 66) sz 0 eM0 [] s.heap [] := ⟨hz, by omega, Or.inl rfl, fun q h => Or.inr h, hP0, va_S.rf, CQ.nil _, rfl⟩
  unfold eM0 at hC
  show W p l e (rmi 1 12 1310) s m _ below meth c s.heap [] 0 0 _ (F0 m 0 ls [])
  refine ci_start S hl rfl (mg 602 (by decide +kernel) (by decide +kernel)) ⟨(Nat.le_of_ble_eq_true rfl), (Nat.le_of_ble_eq_true rfl)⟩ dX6_init_0 dX6_init_1 ?_
  refine lv_aload_n hx hb dX6_init_4 rfl (lv_at hl 0 rfl) ?_
  refine lv_sipush hx hb dX6_init_5 (v := 180) rfl ?_
  refine ci_arr (ty := .int) (cA := g.2.1 0) (N := 180) hx hb (hts _ (mg 64 (by decide +kernel) (by decide +kernel))) (hX.1.2 0 _ rfl).2 rfl (by decide) rfl (Nat.le_of_ble_eq_true rfl) (Nat.le_of_ble_eq_true rfl) (Nat.le_of_ble_eq_true rfl) dX6_init_8 hC (fun H1 hC => ?_)
  refine ci_putF (ci := 6) (C := RX6) (T := TX6) (N := 30) (k := 0) (ft := .array .int) S hX hin rfl inG6 tyX6 tyX6_ok nmX6 (by decide) (mg 611 (by decide +kernel) (by decide +kernel)) rfl rfl (by decide +kernel) rfl rfl (Nat.le_of_ble_eq_true rfl) dX6_init_10 hC (fun H1 locs1 hC => ?_)
  refine lv_aload_n hx hb dX6_init_13 rfl (lv_at hl 0 rfl) ?_
  refine lv_bipush hx hb dX6_init_14 (v := 60) rfl ?_
  refine ci_arr (ty := .int) (cA := g.2.1 0) (N := 60) hx hb (hts _ (mg 64 (by decide +kernel) (by decide +kernel))) (hX.1.2 0 _ rfl).2 rfl (by decide) rfl (Nat.le_of_ble_eq_true rfl) (Nat.le_of_ble_eq_true rfl) (Nat.le_of_ble_eq_true rfl) dX6_init_16 hC (fun H1 hC => ?_)
  refine ci_putF (ci := 6) (C := RX6) (T := TX6) (N := 30) (k := 1) (ft := .array .int) S hX hin rfl inG6 tyX6 tyX6_ok nmX6 (by decide) (mg 612 (by decide +kernel) (by decide +kernel)) rfl rfl (by decide +kernel) rfl rfl (Nat.le_of_ble_eq_true rfl) dX6_init_18 hC (fun H1 locs1 hC => ?_)
  refine lv_aload_n hx hb dX6_init_21 rfl (lv_at hl 0 rfl) ?_
  refine lv_iconst hx hb dX6_init_22 (v := 2) rfl ?_
  refine ci_arr (ty := .boolean) (cA := g.2.1 2) (N := 2) hx hb (hts _ (mg 702 (by decide +kernel) (by decide +kernel))) (hX.1.2 2 _ rfl).2 rfl (by decide) rfl (Nat.le_of_ble_eq_true rfl) (Nat.le_of_ble_eq_true rfl) (Nat.le_of_ble_eq_true rfl) dX6_init_23 hC (fun H1 hC => ?_)
  refine ci_putF (ci := 6) (C := RX6) (T := TX6) (N := 30) (k := 2) (ft := .array .boolean) S hX hin rfl inG6 tyX6 tyX6_ok nmX6 (by decide) (mg 613 (by decide +kernel) (by decide +kernel)) rfl rfl (by decide +kernel) rfl rfl (Nat.le_of_ble_eq_true rfl) dX6_init_25 hC (fun H1 locs1 hC => ?_)
  refine lv_aload_n hx hb dX6_init_28 rfl (lv_at hl 0 rfl) ?_
  refine lv_bipush hx hb dX6_init_29 (v := 60) rfl ?_
  refine ci_arr (ty := .int) (cA := g.2.1 0) (N := 60) hx hb (hts _ (mg 64 (by decide +kernel) (by decide +kernel))) (hX.1.2 0 _ rfl).2 rfl (by decide) rfl (Nat.le_of_ble_eq_true rfl) (Nat.le_of_ble_eq_true rfl) (Nat.le_of_ble_eq_true rfl) dX6_init_31 hC (fun H1 hC => ?_)
  refine ci_putF (ci := 6) (C := RX6) (T := TX6) (N := 30) (k := 3) (ft := .array .int) S hX hin rfl inG6 tyX6 tyX6_ok nmX6 (by decide) (mg 614 (by decide +kernel) (by decide +kernel)) rfl rfl (by decide +kernel) rfl rfl (Nat.le_of_ble_eq_true rfl) dX6_init_33 hC (fun H1 locs1 hC => ?_)
  refine lv_aload_n hx hb dX6_init_36 rfl (lv_at hl 0 rfl) ?_
  refine lv_sipush hx hb dX6_init_37 (v := 160) rfl ?_
  refine ci_arr (ty := .int) (cA := g.2.1 0) (N := 160) hx hb (hts _ (mg 64 (by decide +kernel) (by decide +kernel))) (hX.1.2 0 _ rfl).2 rfl (by decide) rfl (Nat.le_of_ble_eq_true rfl) (Nat.le_of_ble_eq_true rfl) (Nat.le_of_ble_eq_true rfl) dX6_init_40 hC (fun H1 hC => ?_)
  refine ci_putF (ci := 6) (C := RX6) (T := TX6) (N := 30) (k := 5) (ft := .array .int) S hX hin rfl inG6 tyX6 tyX6_ok nmX6 (by decide) (mg 616 (by decide +kernel) (by decide +kernel)) rfl rfl (by decide +kernel) rfl rfl (Nat.le_of_ble_eq_true rfl) dX6_init_42 hC (fun H1 locs1 hC => ?_)
  refine lv_aload_n hx hb dX6_init_45 rfl (lv_at hl 0 rfl) ?_
  refine lv_iconst hx hb dX6_init_46 (v := 5) rfl ?_
  refine ci_arr (ty := .int) (cA := g.2.1 0) (N := 5) hx hb (hts _ (mg 64 (by decide +kernel) (by decide +kernel))) (hX.1.2 0 _ rfl).2 rfl (by decide) rfl (Nat.le_of_ble_eq_true rfl) (Nat.le_of_ble_eq_true rfl) (Nat.le_of_ble_eq_true rfl) dX6_init_47 hC (fun H1 hC => ?_)
  refine ci_putF (ci := 6) (C := RX6) (T := TX6) (N := 30) (k := 17) (ft := .array .int) S hX hin rfl inG6 tyX6 tyX6_ok nmX6 (by decide) (mg 628 (by decide +kernel) (by decide +kernel)) rfl rfl (by decide +kernel) rfl rfl (Nat.le_of_ble_eq_true rfl) dX6_init_49 hC (fun H1 locs1 hC => ?_)
  refine lv_aload_n hx hb dX6_init_52 rfl (lv_at hl 0 rfl) ?_
  refine lv_sipush hx hb dX6_init_53 (v := 205) rfl ?_
  refine ci_arr (ty := .int) (cA := g.2.1 0) (N := 205) hx hb (hts _ (mg 64 (by decide +kernel) (by decide +kernel))) (hX.1.2 0 _ rfl).2 rfl (by decide) rfl (Nat.le_of_ble_eq_true rfl) (Nat.le_of_ble_eq_true rfl) (Nat.le_of_ble_eq_true rfl) dX6_init_56 hC (fun H1 hC => ?_)
  refine ci_putF (ci := 6) (C := RX6) (T := TX6) (N := 30) (k := 23) (ft := .array .int) S hX hin rfl inG6 tyX6 tyX6_ok nmX6 (by decide) (mg 634 (by decide +kernel) (by decide +kernel)) rfl rfl (by decide +kernel) rfl rfl (Nat.le_of_ble_eq_true rfl) dX6_init_58 hC (fun H1 locs1 hC => ?_)
  refine lv_aload_n hx hb dX6_init_61 rfl (lv_at hl 0 rfl) ?_
  refine lv_sipush hx hb dX6_init_62 (v := 410) rfl ?_
  refine ci_arr (ty := .int) (cA := g.2.1 0) (N := 410) hx hb (hts _ (mg 64 (by decide +kernel) (by decide +kernel))) (hX.1.2 0 _ rfl).2 rfl (by decide) rfl (Nat.le_of_ble_eq_true rfl) (Nat.le_of_ble_eq_true rfl) (Nat.le_of_ble_eq_true rfl) dX6_init_65 hC (fun H1 hC => ?_)
  refine ci_putF (ci := 6) (C := RX6) (T := TX6) (N := 30) (k := 24) (ft := .array .int) S hX hin rfl inG6 tyX6 tyX6_ok nmX6 (by decide) (mg 635 (by decide +kernel) (by decide +kernel)) rfl rfl (by decide +kernel) rfl rfl (Nat.le_of_ble_eq_true rfl) dX6_init_67 hC (fun H1 locs1 hC => ?_)
  refine lv_aload_n hx hb dX6_init_70 rfl (lv_at hl 0 rfl) ?_
  refine lv_iconst hx hb dX6_init_71 (v := 4) rfl ?_
  refine ci_arr (ty := .int) (cA := g.2.1 0) (N := 4) hx hb (hts _ (mg 64 (by decide +kernel) (by decide +kernel))) (hX.1.2 0 _ rfl).2 rfl (by decide) rfl (Nat.le_of_ble_eq_true rfl) (Nat.le_of_ble_eq_true rfl) (Nat.le_of_ble_eq_true rfl) dX6_init_72 hC (fun H1 hC => ?_)
  refine ci_putF (ci := 6) (C := RX6) (T := TX6) (N := 30) (k := 25) (ft := .array .int) S hX hin rfl inG6 tyX6 tyX6_ok nmX6 (by decide) (mg 636 (by decide +kernel) (by decide +kernel)) rfl rfl (by decide +kernel) rfl rfl (Nat.le_of_ble_eq_true rfl) dX6_init_74 hC (fun H1 locs1 hC => ?_)
  refine lv_aload_n hx hb dX6_init_77 rfl (lv_at hl 0 rfl) ?_
  refine lv_iconst hx hb dX6_init_78 (v := 4) rfl ?_
  refine ci_arr (ty := .int) (cA := g.2.1 0) (N := 4) hx hb (hts _ (mg 64 (by decide +kernel) (by decide +kernel))) (hX.1.2 0 _ rfl).2 rfl (by decide) rfl (Nat.le_of_ble_eq_true rfl) (Nat.le_of_ble_eq_true rfl) (Nat.le_of_ble_eq_true rfl) dX6_init_79 hC (fun H1 hC => ?_)
  refine ci_putF (ci := 6) (C := RX6) (T := TX6) (N := 30) (k := 26) (ft := .array .int) S hX hin rfl inG6 tyX6 tyX6_ok nmX6 (by decide) (mg 637 (by decide +kernel) (by decide +kernel)) rfl rfl (by decide +kernel) rfl rfl (Nat.le_of_ble_eq_true rfl) dX6_init_81 hC (fun H1 locs1 hC => ?_)
  refine lv_aload_n hx hb dX6_init_84 rfl (lv_at hl 0 rfl) ?_
  refine lv_sipush hx hb dX6_init_85 (v := 160) rfl ?_
  refine ci_arr (ty := .int) (cA := g.2.1 0) (N := 160) hx hb (hts _ (mg 64 (by decide +kernel) (by decide +kernel))) (hX.1.2 0 _ rfl).2 rfl (by decide) rfl (Nat.le_of_ble_eq_true rfl) (Nat.le_of_ble_eq_true rfl) (Nat.le_of_ble_eq_true rfl) dX6_init_88 hC (fun H1 hC => ?_)
  refine ci_putF (ci := 6) (C := RX6) (T := TX6) (N := 30) (k := 27) (ft := .array .int) S hX hin rfl inG6 tyX6 tyX6_ok nmX6 (by decide) (mg 638 (by decide +kernel) (by decide +kernel)) rfl rfl (by decide +kernel) rfl rfl (Nat.le_of_ble_eq_true rfl) dX6_init_90 hC (fun H1 locs1 hC => ?_)
  refine lv_aload_n hx hb dX6_init_93 rfl (lv_at hl 0 rfl) ?_
  refine lv_bipush hx hb dX6_init_94 (v := 60) rfl ?_
  refine ci_arr (ty := .int) (cA := g.2.1 0) (N := 60) hx hb (hts _ (mg 64 (by decide +kernel) (by decide +kernel))) (hX.1.2 0 _ rfl).2 rfl (by decide) rfl (Nat.le_of_ble_eq_true rfl) (Nat.le_of_ble_eq_true rfl) (Nat.le_of_ble_eq_true rfl) dX6_init_96 hC (fun H1 hC => ?_)
  refine ci_putF (ci := 6) (C := RX6) (T := TX6) (N := 30) (k := 29) (ft := .array .int) S hX hin rfl inG6 tyX6 tyX6_ok nmX6 (by decide) (mg 640 (by decide +kernel) (by decide +kernel)) rfl rfl (by decide +kernel) rfl rfl (Nat.le_of_ble_eq_true rfl) dX6_init_98 hC (fun H1 locs1 hC => ?_)
  have hC : CWd g (Fr (g.2.2 66) sz) s (g.2.2 66) sz 12 (eF_6 sz) (tl_6 g sz) H1 locs1 := hC
  obtain ⟨h1, h2, h3, h4, h5, h6, h7, h8⟩ := hC
  have hcl1 : ∀ k, k < 66 → va_at g.1 vwCl (g.2.2 k, pic g mu0 k) H1 := fun k hk => (hcl k hk).kept (h6.2.1 _ (hcl k hk).lt (by have := hG.2.1 k hk; unfold Fr; show ¬ (g.2.2 k = g.2.2 66 ∨ sz ≤ g.2.2 k); omega))
  have hW := wl_66 hG hcl1 h5
  have hA2 : ∀ q, Fr (g.2.2 66) sz q → A2x g sz q := fun q hq => by
    rcases hq with z | z
    · exact Or.inl ⟨66, by decide, z⟩
    · exact Or.inr z
  have CC : CF p (rmi 1 12 1310) s m #[Value.ref (g.2.2 66)] c cX6_init 2 RX6 g (A2x g sz) 12 1310 1 := ⟨S, hX.1, hG.1, hST, fun q h => Or.inl h, Nat.le_refl _, Nat.le_refl _, Nat.le_refl _, Nat.le_refl _⟩
  have hclos : Clos FX6 CX6 G_X6_init 0 (fun r μ => r = [] ∧ μ = fz mu0) cX6_init (VV p l e (rmi 1 12 1310) s m #[Value.ref (g.2.2 66)] below meth c 2 g (A2x g sz) 12 1310 (MQ below (QX g sz) #[Value.ref (g.2.2 66)] s 12 1310 (A2x g sz))) := by
    refine clos_sound CC FOK6 COK6 (gk_X6_init l) ?_
    intro go pc L stk μ' len i hi' hd h hl H locs ls hP hS hv
    rcases hi' with rfl | rfl | rfl
    · obtain ⟨rfl, h⟩ := h
      split at h
      · obtain ⟨h1, -⟩ := h; omega
      · exact h.elim
    · obtain ⟨rfl, h⟩ := h
      split at h
      · obtain ⟨h1, -⟩ := h; omega
      · exact h.elim
    · obtain ⟨rfl, h⟩ := h
      split at h
      · obtain ⟨h1, h2⟩ := h
        obtain ⟨-, rfl⟩ := h2
        exact W.vret B.exec B.bytes B.returns (fun t ht hW => ⟨⟨(), rfl, trivial, by show va_P g.1 vwCl _ t.heap; rw [ht]; exact hP⟩, hS.F ht⟩) hS.2.2 hd
      · exact h.elim
  exact b_mi101 _ _ hclos mu0 ⟨rfl, rfl⟩ rfl H1 locs1 ls hW (h6.wk hA2) (lv_mono hl (fun q hq => by
    obtain ⟨v, hv1, hv2⟩ := lvs_mem.mp hq
    obtain ⟨a, b⟩ := q
    match a, hv1 with
    | 0, hv1 => simp [lg] at hv1; subst hv1; simp only at hv2; rw [hv2]; simp [cv]
    | 1, hv1 => simp [lg] at hv1
    | a + 2, hv1 => simp [lg] at hv1))
