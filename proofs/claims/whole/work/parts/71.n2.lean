/-! constructors: Ring, Seen, Sheet, Tape, Image -/
theorem ci_start {p : Program} {l : Launch} {e : Env} {R : Room} {s : State} {m : MethodId} {args : Array Value} {below : List Frame} {meth : Method} {c : Code} {H : Heap} {locs : List Loc} {cells slots : Nat} {Q : State → Prop} {cc : ByteArray} {nL idx : Nat} {ls : Array Slot} {own : String} {h0 : Nat} {lv : List (Nat × Value)} (S : CallFix p m c cc nL s args gtb own) (hl : lv_has ls nL lv) (h0l : lv[0]? = some (0, .ref h0)) (w : Jvm.Cond.methodLink own idx Lib.objectInit ∈ gtb) (hR : 1 ≤ R.frames ∧ 36 ≤ R.locals) (d0 : decode cc 0 = .ok (.aload_n 0, 1)) (d1 : decode cc 1 = .ok (.invokespecial idx, 3)) (kk : W p l e R s m args below meth c H locs cells slots Q (F0 m 4 ls [])) : W p l e R s m args below meth c H locs cells slots Q (F0 m 0 ls []) := by
  obtain ⟨hx, hb, hml, hown, hts⟩ := S
  refine lv_aload_n hx hb d0 rfl (lv_at hl 0 h0l) ?_
  refine W.objInit hx hb hown (hts _ w) (hts _ (mg 21 (by decide +kernel) (by decide +kernel))) (hts _ (mg 22 (by decide +kernel) (by decide +kernel))) rfl (by rw [hml]; exact hl.1) rfl d1 hR.1 (by show 2 * 0 + 0 + 12 ≤ R.locals; omega) ?_
  exact kk
def eF_1 (g : Gh) (z : Nat) : va_E := .inr (1, [.ref z, .int 0, .int (-4), .int 0, .int 0, .int 0, .int 0])
def tl_1 (g : Gh) (z : Nat) : va_W := mxW g z 5 7
theorem tl_1q (g : Gh) (z : Nat) : CQ z (tl_1 g z) ∧ (tl_1 g z).length = 6 := ⟨mxW_q _ _ _ _, by simp [tl_1, mxW]⟩
set_option maxRecDepth 20000 in
set_option maxHeartbeats 4000000 in
theorem mi_1 (l : Launch) : MI l 1 yX1_init cX1_init 1 6 40 (.inr (1, [.null, .int 0, .int 0, .int 0, .int 0, .int 0, .int 0])) eF_1 tl_1 := by
  refine MI.mk (own := RX1) (by decide) rfl (by decide) ?_
  intro g h0 sz p e s m args below meth c ls Q S hX hin hl hC kk
  have S' := S
  obtain ⟨hx, hb, hml, hown, hts⟩ := S'
  have hin := hin rfl
  refine ci_start S hl rfl (mg 28 (by decide +kernel) (by decide +kernel)) ⟨(Nat.le_of_ble_eq_true rfl), (Nat.le_of_ble_eq_true rfl)⟩ dX1_init_0 dX1_init_1 ?_
  refine lv_aload_n hx hb dX1_init_4 rfl (lv_at hl 0 rfl) ?_
  refine lv_iconst hx hb dX1_init_5 (v := 5) rfl ?_
  refine lv_bipush hx hb dX1_init_6 (v := 7) rfl ?_
  refine ci_multi (N := 5) (M := 7) hx hb hown (hts _ (mg 29 (by decide +kernel) (by decide +kernel))) hX (by decide) (by decide) rfl rfl (Nat.le_of_ble_eq_true rfl) (Nat.le_of_ble_eq_true rfl) (Nat.le_of_ble_eq_true rfl) (Nat.le_of_ble_eq_true rfl) dX1_init_8 hC (fun H1 locs1 hC => ?_)
  refine ci_putF (ci := 1) (C := RX1) (T := TX1) (N := 7) (k := 0) (ft := .array (.array .int)) S hX hin rfl inG1 tyX1 tyX1_ok nmX1 (by decide) (mg 31 (by decide +kernel) (by decide +kernel)) rfl rfl (by decide +kernel) rfl rfl (Nat.le_of_ble_eq_true rfl) dX1_init_12 hC (fun H1 locs1 hC => ?_)
  refine lv_aload_n hx hb dX1_init_15 rfl (lv_at hl 0 rfl) ?_
  refine lv_bipush hx hb dX1_init_16 (v := -4) rfl ?_
  refine ci_put (ci := 1) (C := RX1) (T := TX1) (N := 7) (k := 2) (ft := .int) S hX rfl inG1 tyX1 tyX1_ok nmX1 (by decide) (mg 38 (by decide +kernel) (by decide +kernel)) rfl (by decide +kernel) rfl rfl (Nat.le_of_ble_eq_true rfl) dX1_init_18 hC (fun H1 locs1 hC => ?_)
  exact kk 21 H1 locs1 ls dX1_init_21 hC
def eF_2 (g : Gh) (z : Nat) : va_E := .inr (2, [.ref z, .ref (z + 1), .ref (z + 2), .int 0])
def tl_2 (g : Gh) (z : Nat) : va_W := [(z, .inl (g.2.1 0, 6, .inl (fun _ => 0))), (z + 1, .inl (g.2.1 0, 6, .inl (fun _ => 0))), (z + 2, .inl (g.2.1 0, 6, .inl (fun _ => 0)))]
theorem tl_2q (g : Gh) (z : Nat) : CQ z (tl_2 g z) ∧ (tl_2 g z).length = 3 := ⟨CQ.cons (CQ.cons (CQ.cons (CQ.nil _))), rfl⟩
set_option maxRecDepth 20000 in
set_option maxHeartbeats 4000000 in
theorem mi_2 (l : Launch) : MI l 1 yX2_init cX2_init 1 3 18 (.inr (2, [.null, .null, .null, .int 0])) eF_2 tl_2 := by
  refine MI.mk (own := RX2) (by decide) rfl (by decide) ?_
  intro g h0 sz p e s m args below meth c ls Q S hX hin hl hC kk
  have S' := S
  obtain ⟨hx, hb, hml, hown, hts⟩ := S'
  have hin := hin rfl
  refine ci_start S hl rfl (mg 70 (by decide +kernel) (by decide +kernel)) ⟨(Nat.le_of_ble_eq_true rfl), (Nat.le_of_ble_eq_true rfl)⟩ dX2_init_0 dX2_init_1 ?_
  refine lv_aload_n hx hb dX2_init_4 rfl (lv_at hl 0 rfl) ?_
  refine lv_bipush hx hb dX2_init_5 (v := 6) rfl ?_
  refine ci_arr (ty := .int) (cA := g.2.1 0) (N := 6) hx hb (hts _ (mg 64 (by decide +kernel) (by decide +kernel))) (hX.1.2 0 _ rfl).2 rfl (by decide) rfl (Nat.le_of_ble_eq_true rfl) (Nat.le_of_ble_eq_true rfl) (Nat.le_of_ble_eq_true rfl) dX2_init_7 hC (fun H1 hC => ?_)
  refine ci_putF (ci := 2) (C := RX2) (T := TX2) (N := 4) (k := 0) (ft := .array .int) S hX hin rfl inG2 tyX2 tyX2_ok nmX2 (by decide) (mg 71 (by decide +kernel) (by decide +kernel)) rfl rfl (by decide +kernel) rfl rfl (Nat.le_of_ble_eq_true rfl) dX2_init_9 hC (fun H1 locs1 hC => ?_)
  refine lv_aload_n hx hb dX2_init_12 rfl (lv_at hl 0 rfl) ?_
  refine lv_bipush hx hb dX2_init_13 (v := 6) rfl ?_
  refine ci_arr (ty := .int) (cA := g.2.1 0) (N := 6) hx hb (hts _ (mg 64 (by decide +kernel) (by decide +kernel))) (hX.1.2 0 _ rfl).2 rfl (by decide) rfl (Nat.le_of_ble_eq_true rfl) (Nat.le_of_ble_eq_true rfl) (Nat.le_of_ble_eq_true rfl) dX2_init_15 hC (fun H1 hC => ?_)
  refine ci_putF (ci := 2) (C := RX2) (T := TX2) (N := 4) (k := 1) (ft := .array .int) S hX hin rfl inG2 tyX2 tyX2_ok nmX2 (by decide) (mg 72 (by decide +kernel) (by decide +kernel)) rfl rfl (by decide +kernel) rfl rfl (Nat.le_of_ble_eq_true rfl) dX2_init_17 hC (fun H1 locs1 hC => ?_)
  refine lv_aload_n hx hb dX2_init_20 rfl (lv_at hl 0 rfl) ?_
  refine lv_bipush hx hb dX2_init_21 (v := 6) rfl ?_
  refine ci_arr (ty := .int) (cA := g.2.1 0) (N := 6) hx hb (hts _ (mg 64 (by decide +kernel) (by decide +kernel))) (hX.1.2 0 _ rfl).2 rfl (by decide) rfl (Nat.le_of_ble_eq_true rfl) (Nat.le_of_ble_eq_true rfl) (Nat.le_of_ble_eq_true rfl) dX2_init_23 hC (fun H1 hC => ?_)
  refine ci_putF (ci := 2) (C := RX2) (T := TX2) (N := 4) (k := 2) (ft := .array .int) S hX hin rfl inG2 tyX2 tyX2_ok nmX2 (by decide) (mg 73 (by decide +kernel) (by decide +kernel)) rfl rfl (by decide +kernel) rfl rfl (Nat.le_of_ble_eq_true rfl) dX2_init_25 hC (fun H1 locs1 hC => ?_)
  exact kk 28 H1 locs1 ls dX2_init_28 hC
def eF_3 (g : Gh) (z : Nat) : va_E := .inr (3, [.ref z, .int (-4), .int (-4)])
def tl_3 (g : Gh) (z : Nat) : va_W := [(z, .inl (g.2.1 0, 40, .inl (fun _ => 0)))]
theorem tl_3q (g : Gh) (z : Nat) : CQ z (tl_3 g z) ∧ (tl_3 g z).length = 1 := ⟨CQ.cons (CQ.nil _), rfl⟩
set_option maxRecDepth 20000 in
set_option maxHeartbeats 4000000 in
theorem mi_3 (l : Launch) : MI l 1 yX3_init cX3_init 1 1 40 (.inr (3, [.null, .int 0, .int 0])) eF_3 tl_3 := by
  refine MI.mk (own := RX3) (by decide) rfl (by decide) ?_
  intro g h0 sz p e s m args below meth c ls Q S hX hin hl hC kk
  have S' := S
  obtain ⟨hx, hb, hml, hown, hts⟩ := S'
  have hin := hin rfl
  refine ci_start S hl rfl (mg 148 (by decide +kernel) (by decide +kernel)) ⟨(Nat.le_of_ble_eq_true rfl), (Nat.le_of_ble_eq_true rfl)⟩ dX3_init_0 dX3_init_1 ?_
  refine lv_aload_n hx hb dX3_init_4 rfl (lv_at hl 0 rfl) ?_
  refine lv_bipush hx hb dX3_init_5 (v := 40) rfl ?_
  refine ci_arr (ty := .int) (cA := g.2.1 0) (N := 40) hx hb (hts _ (mg 64 (by decide +kernel) (by decide +kernel))) (hX.1.2 0 _ rfl).2 rfl (by decide) rfl (Nat.le_of_ble_eq_true rfl) (Nat.le_of_ble_eq_true rfl) (Nat.le_of_ble_eq_true rfl) dX3_init_7 hC (fun H1 hC => ?_)
  refine ci_putF (ci := 3) (C := RX3) (T := TX3) (N := 3) (k := 0) (ft := .array .int) S hX hin rfl inG3 tyX3 tyX3_ok nmX3 (by decide) (mg 149 (by decide +kernel) (by decide +kernel)) rfl rfl (by decide +kernel) rfl rfl (Nat.le_of_ble_eq_true rfl) dX3_init_9 hC (fun H1 locs1 hC => ?_)
  refine lv_aload_n hx hb dX3_init_12 rfl (lv_at hl 0 rfl) ?_
  refine lv_bipush hx hb dX3_init_13 (v := -4) rfl ?_
  refine ci_put (ci := 3) (C := RX3) (T := TX3) (N := 3) (k := 1) (ft := .int) S hX rfl inG3 tyX3 tyX3_ok nmX3 (by decide) (mg 151 (by decide +kernel) (by decide +kernel)) rfl (by decide +kernel) rfl rfl (Nat.le_of_ble_eq_true rfl) dX3_init_15 hC (fun H1 locs1 hC => ?_)
  refine lv_aload_n hx hb dX3_init_18 rfl (lv_at hl 0 rfl) ?_
  refine lv_bipush hx hb dX3_init_19 (v := -4) rfl ?_
  refine ci_put (ci := 3) (C := RX3) (T := TX3) (N := 3) (k := 2) (ft := .int) S hX rfl inG3 tyX3 tyX3_ok nmX3 (by decide) (mg 153 (by decide +kernel) (by decide +kernel)) rfl (by decide +kernel) rfl rfl (Nat.le_of_ble_eq_true rfl) dX3_init_21 hC (fun H1 locs1 hC => ?_)
  exact kk 24 H1 locs1 ls dX3_init_24 hC
def eF_4 (g : Gh) (z : Nat) : va_E := .inr (4, [.ref z, .int 0, .int 0, .int 0, .int 0, .int 0, .int 0])
def tl_4 (g : Gh) (z : Nat) : va_W := [(z, .inl (g.2.1 1, 160, .inl (fun _ => 0)))]
theorem tl_4q (g : Gh) (z : Nat) : CQ z (tl_4 g z) ∧ (tl_4 g z).length = 1 := ⟨CQ.cons (CQ.nil _), rfl⟩
set_option maxRecDepth 20000 in
set_option maxHeartbeats 4000000 in
theorem mi_4 (l : Launch) : MI l 1 yX4_init cX4_init 1 1 160 (.inr (4, [.null, .int 0, .int 0, .int 0, .int 0, .int 0, .int 0])) eF_4 tl_4 := by
  refine MI.mk (own := RX4) (by decide) rfl (by decide) ?_
  intro g h0 sz p e s m args below meth c ls Q S hX hin hl hC kk
  have S' := S
  obtain ⟨hx, hb, hml, hown, hts⟩ := S'
  have hin := hin rfl
  refine ci_start S hl rfl (mg 90 (by decide +kernel) (by decide +kernel)) ⟨(Nat.le_of_ble_eq_true rfl), (Nat.le_of_ble_eq_true rfl)⟩ dX4_init_0 dX4_init_1 ?_
  refine lv_aload_n hx hb dX4_init_4 rfl (lv_at hl 0 rfl) ?_
  refine lv_sipush hx hb dX4_init_5 (v := 160) rfl ?_
  refine ci_arr (ty := .byte) (cA := g.2.1 1) (N := 160) hx hb (hts _ (mg 117 (by decide +kernel) (by decide +kernel))) (hX.1.2 1 _ rfl).2 rfl (by decide) rfl (Nat.le_of_ble_eq_true rfl) (Nat.le_of_ble_eq_true rfl) (Nat.le_of_ble_eq_true rfl) dX4_init_8 hC (fun H1 hC => ?_)
  refine ci_putF (ci := 4) (C := RX4) (T := TX4) (N := 7) (k := 0) (ft := .array .byte) S hX hin rfl inG4 tyX4 tyX4_ok nmX4 (by decide) (mg 91 (by decide +kernel) (by decide +kernel)) rfl rfl (by decide +kernel) rfl rfl (Nat.le_of_ble_eq_true rfl) dX4_init_10 hC (fun H1 locs1 hC => ?_)
  exact kk 13 H1 locs1 ls dX4_init_13 hC
def eF_0 (g : Gh) (z : Nat) : va_E := .inr (0, [.ref z, .ref (z + 7), .int 0])
def tl_0 (g : Gh) (z : Nat) : va_W := ((z, eF_1 g (z + 1)) :: tl_1 g (z + 1)) ++ ((z + 7, eF_2 g (z + 8)) :: tl_2 g (z + 8))
theorem tl_0q (g : Gh) (z : Nat) : CQ z (tl_0 g z) ∧ (tl_0 g z).length = 11 := ⟨CQ.app (CQ.cons (tl_1q g (z + 1)).1) (CQ.cons (tl_2q g (z + 8)).1), rfl⟩
set_option maxRecDepth 20000 in
set_option maxHeartbeats 4000000 in
theorem mi_0 (l : Launch) : MI l 2 yX0_init cX0_init 1 11 69 (.inr (0, [.null, .null, .int 0])) eF_0 tl_0 := by
  refine MI.mk (own := RX0) (by decide) rfl (by decide) ?_
  intro g h0 sz p e s m args below meth c ls Q S hX hin hl hC kk
  have S' := S
  obtain ⟨hx, hb, hml, hown, hts⟩ := S'
  have hin := hin rfl
  refine ci_start S hl rfl (mg 127 (by decide +kernel) (by decide +kernel)) ⟨(Nat.le_of_ble_eq_true rfl), (Nat.le_of_ble_eq_true rfl)⟩ dX0_init_0 dX0_init_1 ?_
  refine lv_aload_n hx hb dX0_init_4 rfl (lv_at hl 0 rfl) ?_
  refine ci_obj (ci := 1) (N := 7) (C := RX1) (T := TX1) (own := RX0) S hX (mi_1 l) rfl inG1 tyX1 tyX1_ok (fun j hj => by rcases (show j = 0 ∨ j = 1 ∨ j = 2 ∨ j = 3 ∨ j = 4 ∨ j = 5 ∨ j = 6 by omega) with rfl | rfl | rfl | rfl | rfl | rfl | rfl <;> rfl) (mg 128 (by decide +kernel) (by decide +kernel)) (mg 24 (by decide +kernel) (by decide +kernel)) (mg 2 (by decide +kernel) (by decide +kernel)) (mg 2 (by decide +kernel) (by decide +kernel)) (mg 27 (by decide +kernel) (by decide +kernel)) (mg 26 (by decide +kernel) (by decide +kernel)) (by decide +kernel) rfl (by decide +kernel) ⟨(Nat.le_of_ble_eq_true rfl), (Nat.le_of_ble_eq_true rfl)⟩ (tl_1q g) (Nat.le_of_ble_eq_true rfl) (Nat.le_of_ble_eq_true rfl) hl.1 (Nat.le_of_ble_eq_true rfl) dX0_init_5 dX0_init_8 dX0_init_9 hC (fun H1 locs1 hC => ?_)
  refine ci_putF (ci := 0) (C := RX0) (T := TX0) (N := 3) (k := 0) (ft := .object "RingWord$Ring") S hX hin rfl inG0 tyX0 tyX0_ok nmX0 (by decide) (mg 132 (by decide +kernel) (by decide +kernel)) rfl rfl (by decide +kernel) rfl rfl (Nat.le_of_ble_eq_true rfl) dX0_init_12 hC (fun H1 locs1 hC => ?_)
  refine lv_aload_n hx hb dX0_init_15 rfl (lv_at hl 0 rfl) ?_
  refine ci_obj (ci := 2) (N := 4) (C := RX2) (T := TX2) (own := RX0) S hX (mi_2 l) rfl inG2 tyX2 tyX2_ok (fun j hj => by rcases (show j = 0 ∨ j = 1 ∨ j = 2 ∨ j = 3 by omega) with rfl | rfl | rfl | rfl <;> rfl) (mg 130 (by decide +kernel) (by decide +kernel)) (mg 66 (by decide +kernel) (by decide +kernel)) (mg 3 (by decide +kernel) (by decide +kernel)) (mg 3 (by decide +kernel) (by decide +kernel)) (mg 69 (by decide +kernel) (by decide +kernel)) (mg 68 (by decide +kernel) (by decide +kernel)) (by decide +kernel) rfl (by decide +kernel) ⟨(Nat.le_of_ble_eq_true rfl), (Nat.le_of_ble_eq_true rfl)⟩ (tl_2q g) (Nat.le_of_ble_eq_true rfl) (Nat.le_of_ble_eq_true rfl) hl.1 (Nat.le_of_ble_eq_true rfl) dX0_init_16 dX0_init_19 dX0_init_20 hC (fun H1 locs1 hC => ?_)
  refine ci_putF (ci := 0) (C := RX0) (T := TX0) (N := 3) (k := 1) (ft := .object "RingWord$Seen") S hX hin rfl inG0 tyX0 tyX0_ok nmX0 (by decide) (mg 134 (by decide +kernel) (by decide +kernel)) rfl rfl (by decide +kernel) rfl rfl (Nat.le_of_ble_eq_true rfl) dX0_init_23 hC (fun H1 locs1 hC => ?_)
  exact kk 26 H1 locs1 ls dX0_init_26 hC
