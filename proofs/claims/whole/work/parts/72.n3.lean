/-! constructors: RingWord -/
theorem CQ.set {sz i : Nat} {w : va_W} {a : Nat} {e1 e2 : va_E} (h : CQ sz w) (hi : w[i]? = some (a, e1)) : CQ sz (w.set i (a, e2)) := by
  intro j q hq
  rw [List.getElem?_set] at hq
  by_cases z : i = j
  · subst z
    rw [if_pos rfl, if_pos (List.getElem?_eq_some_iff.mp hi).1] at hq
    cases hq
    exact h i (a, e1) hi
  · rw [if_neg z] at hq
    exact h j q hq
section
variable {p : Program} {l : Launch} {e : Env} {R : Room} {s : State} {m : MethodId} {args : Array Value} {below : List Frame} {meth : Method} {c : Code} {H : Heap} {locs : List Loc} {cells slots : Nat} {Q : State → Prop}
variable {cc : ByteArray} {pc nL : Nat} {ls : Array Slot} {rest : List Value} {A : Nat → Prop} {g : Gh} {own : String} {h0 sz : Nat} {e0 : va_E} {wr : va_W}
theorem ci_ast (q0 t0 qk ci : Nat) {a n v : Nat} {wr2 : va_W} {cA : ClassId} {r : vw_C} {vs : List Value} {f : Nat → Option Nat} (hx : p.tables.exec = Jvm.exec) (hb : c.code = cc) (hX : XC g s) (ha : wr[q0]? = some (a, .inl (cA, n, .inr (.inr (.inr (.inr f)))))) (ht : (tysG g)[t0]? = some (cA, .object r.1)) (hv : wr[qk]? = some (v, .inr (ci, vs))) (hc : vwCl[ci]? = some r) {i : Int32} (hin : vp_in i n) (hdg : decode cc pc = .ok (.aastore, 1)) (hw : wr.set q0 (a, .inl (cA, n, .inr (.inr (.inr (.inr (va_up f i.toNatClampNeg (some v))))))) = wr2) (hC : CWd g A s h0 sz cells e0 wr H locs)
    (kk : ∀ H1 locs1, CWd g A s h0 sz cells e0 wr2 H1 locs1 → W p l e R s m args below meth c H1 locs1 cells slots Q (F0 m (pc + 1) ls rest)) : W p l e R s m args below meth c H locs cells slots Q (F0 m pc ls (.ref v :: .int i :: .ref a :: rest)) := by
  subst hw
  obtain ⟨h1, h2, h3, h4, h5, h6, h7, h8⟩ := hC
  refine va_astq hx hb hX.1 h5 (h7.D h2 h3 h4) h6 (q0 + 1) t0 (qk + 1) ci (by rw [List.getElem?_cons_succ]; exact ha) ht (by rw [List.getElem?_cons_succ]; exact hv) hc hin hdg fun H1 locs1 q1 q2 q3 => ?_
  exact kk H1 locs1 ⟨h1, h2, h3, h4, q1, q3, h7.set ha, by rw [List.length_set]; exact h8⟩
theorem ci_get {ci N k index : Nat} {C : String} {T : u_T} {fs : List Value} {v : Value} (S : CallFix p m c cc nL s args gtb own) (hX : XC g s) (hc : vwCl[ci]? = some (C, T, N)) (hin : ∀ w ∈ u_ws C T N, w ∈ gtb) (hk : k < N) (hlink : Jvm.Cond.fieldLink own index (T k).1 (T k).2.1 (T k).2.2.1 ∈ gtb) (hv : fs[k]? = some v) (hdg : decode cc pc = .ok (.getfield index, 3)) (hC : CWd g A s h0 sz cells (.inr (ci, fs)) wr H locs)
    (kk : W p l e R s m args below meth c H locs cells slots Q (F0 m (pc + 3) ls (v :: rest))) : W p l e R s m args below meth c H locs cells slots Q (F0 m pc ls (.ref h0 :: rest)) := by
  obtain ⟨h1, h2, h3, h4, h5, h6, h7, h8⟩ := hC
  obtain ⟨hx, hb, hml, hown, hts⟩ := S
  exact va_get hx hb hts hin hown hX.1 h5 0 rfl hc k hk (hts _ hlink) (fun _ z => z) hv hdg kk
end
theorem set_l {α : Type} (u v : List α) {i : Nat} (x : α) (h : i < u.length) : (u ++ v).set i x = u.set i x ++ v := by rw [List.set_append, if_pos h]
theorem set_r {α : Type} (u : List α) {i : Nat} (x y : α) (h : u.length = i) : (u ++ [y]).set i x = u ++ [x] := by
  rw [List.set_append, if_neg (by omega)]
  subst h
  simp
theorem get_l {α : Type} {u v : List α} {i : Nat} {q : α} (h : u[i]? = some q) : (u ++ v)[i]? = some q := by rw [List.getElem?_append_left (List.getElem?_eq_some_iff.mp h).1]; exact h
theorem get_r {α : Type} {u v : List α} {i : Nat} {q : α} (h : u.length = i) : (u ++ (q :: v))[i]? = some q := by rw [List.getElem?_append_right (by omega), show i - u.length = 0 by omega]; rfl
def wP (g : Gh) (z : Nat) : va_W := ((((z, eF_1 g (z + 1)) :: tl_1 g (z + 1)) ++ ((z + 7, eF_1 g (z + 8)) :: tl_1 g (z + 8))) ++ ((z + 14, eF_2 g (z + 15)) :: tl_2 g (z + 15))) ++ ((z + 18, eF_4 g (z + 19)) :: tl_4 g (z + 19))
def wA (g : Gh) (z : Nat) (f f' : Nat → Option Nat) : va_W := ((wP g z ++ [(z + 20, .inl (g.2.1 3, 2, .inr (.inr (.inr (.inr f)))))]) ++ [(z + 21, .inl (g.2.1 4, 4, .inr (.inr (.inr (.inr f')))))]) ++ mxW g (z + 22) 10 41
theorem wP_len (g : Gh) (z : Nat) : (wP g z).length = 20 := by simp [wP, tl_1, tl_2, tl_4, mxW]
theorem wA_len (g : Gh) (z : Nat) (f f' : Nat → Option Nat) : (wA g z f f').length = 33 := by simp [wA, wP_len, mxW]
theorem wA_20 (g : Gh) (z : Nat) (f f' : Nat → Option Nat) : (wA g z f f')[20]? = some (z + 20, .inl (g.2.1 3, 2, .inr (.inr (.inr (.inr f))))) := get_l (get_l (get_r (wP_len g z)))
theorem wA_21 (g : Gh) (z : Nat) (f f' : Nat → Option Nat) : (wA g z f f')[21]? = some (z + 21, .inl (g.2.1 4, 4, .inr (.inr (.inr (.inr f'))))) := get_l (get_r (by simp [wP_len]))
theorem wA_s20 (g : Gh) (z : Nat) (f f' f2 : Nat → Option Nat) : (wA g z f f').set 20 (z + 20, .inl (g.2.1 3, 2, .inr (.inr (.inr (.inr f2))))) = wA g z f2 f' := by
  unfold wA
  rw [set_l _ _ _ (by simp [wP_len]), set_l _ _ _ (by simp [wP_len]), set_r _ _ _ (wP_len g z)]
theorem wA_s21 (g : Gh) (z : Nat) (f f' f2 : Nat → Option Nat) : (wA g z f f').set 21 (z + 21, .inl (g.2.1 4, 4, .inr (.inr (.inr (.inr f2))))) = wA g z f f2 := by
  unfold wA
  rw [set_l _ _ _ (by simp [wP_len]), set_r _ _ _ (by simp [wP_len])]
def eF_5 (g : Gh) (z : Nat) : va_E := .inr (5, [.ref z, .ref (z + 7), .ref (z + 14), .ref (z + 18), .ref (z + 20), .ref (z + 21), .ref (z + 22), .int 0])
def tl_5 (g : Gh) (z : Nat) : va_W := ((((((wA g z (va_up (va_up (fun _ => none) 0 (some (z + 33))) 1 (some (z + 45))) (va_up (va_up (va_up (va_up (fun _ => none) 0 (some (z + 57))) 1 (some (z + 59))) 2 (some (z + 61))) 3 (some (z + 63)))) ++ ((z + 33, eF_0 g (z + 34)) :: tl_0 g (z + 34))) ++ ((z + 45, eF_0 g (z + 46)) :: tl_0 g (z + 46))) ++ ((z + 57, eF_3 g (z + 58)) :: tl_3 g (z + 58))) ++ ((z + 59, eF_3 g (z + 60)) :: tl_3 g (z + 60))) ++ ((z + 61, eF_3 g (z + 62)) :: tl_3 g (z + 62))) ++ ((z + 63, eF_3 g (z + 64)) :: tl_3 g (z + 64))
set_option maxRecDepth 20000 in
set_option maxHeartbeats 4000000 in
theorem mi_5 (l : Launch) : MI l 3 yX5_init cX5_init 2 65 1025 (.inr (5, [.null, .null, .null, .null, .null, .null, .null, .int 0])) eF_5 tl_5 := by
  refine MI.mk (own := RX5) (by decide) rfl (by decide) ?_
  intro g h0 sz p e s m args below meth c ls Q S hX hin hl hC kk
  have S' := S
  obtain ⟨hx, hb, hml, hown, hts⟩ := S'
  have hin := hin rfl
  refine ci_start S hl rfl (mg 20 (by decide +kernel) (by decide +kernel)) ⟨(Nat.le_of_ble_eq_true rfl), (Nat.le_of_ble_eq_true rfl)⟩ dX5_init_0 dX5_init_1 ?_
  refine lv_aload_n hx hb dX5_init_4 rfl (lv_at hl 0 rfl) ?_
  refine ci_obj (ci := 1) (N := 7) (C := RX1) (T := TX1) (own := RX5) S hX (mi_1 l) rfl inG1 tyX1 tyX1_ok (fun j hj => by rcases (show j = 0 ∨ j = 1 ∨ j = 2 ∨ j = 3 ∨ j = 4 ∨ j = 5 ∨ j = 6 by omega) with rfl | rfl | rfl | rfl | rfl | rfl | rfl <;> rfl) (mg 23 (by decide +kernel) (by decide +kernel)) (mg 24 (by decide +kernel) (by decide +kernel)) (mg 2 (by decide +kernel) (by decide +kernel)) (mg 2 (by decide +kernel) (by decide +kernel)) (mg 27 (by decide +kernel) (by decide +kernel)) (mg 26 (by decide +kernel) (by decide +kernel)) (by decide +kernel) rfl (by decide +kernel) ⟨(Nat.le_of_ble_eq_true rfl), (Nat.le_of_ble_eq_true rfl)⟩ (tl_1q g) (Nat.le_of_ble_eq_true rfl) (Nat.le_of_ble_eq_true rfl) hl.1 (Nat.le_of_ble_eq_true rfl) dX5_init_5 dX5_init_8 dX5_init_9 hC (fun H1 locs1 hC => ?_)
  refine ci_putF (ci := 5) (C := RX5) (T := TX5) (N := 8) (k := 0) (ft := .object "RingWord$Ring") S hX hin rfl inG5 tyX5 tyX5_ok nmX5 (by decide) (mg 162 (by decide +kernel) (by decide +kernel)) rfl rfl (by decide +kernel) rfl rfl (Nat.le_of_ble_eq_true rfl) dX5_init_12 hC (fun H1 locs1 hC => ?_)
  refine lv_aload_n hx hb dX5_init_15 rfl (lv_at hl 0 rfl) ?_
  refine ci_obj (ci := 1) (N := 7) (C := RX1) (T := TX1) (own := RX5) S hX (mi_1 l) rfl inG1 tyX1 tyX1_ok (fun j hj => by rcases (show j = 0 ∨ j = 1 ∨ j = 2 ∨ j = 3 ∨ j = 4 ∨ j = 5 ∨ j = 6 by omega) with rfl | rfl | rfl | rfl | rfl | rfl | rfl <;> rfl) (mg 23 (by decide +kernel) (by decide +kernel)) (mg 24 (by decide +kernel) (by decide +kernel)) (mg 2 (by decide +kernel) (by decide +kernel)) (mg 2 (by decide +kernel) (by decide +kernel)) (mg 27 (by decide +kernel) (by decide +kernel)) (mg 26 (by decide +kernel) (by decide +kernel)) (by decide +kernel) rfl (by decide +kernel) ⟨(Nat.le_of_ble_eq_true rfl), (Nat.le_of_ble_eq_true rfl)⟩ (tl_1q g) (Nat.le_of_ble_eq_true rfl) (Nat.le_of_ble_eq_true rfl) hl.1 (Nat.le_of_ble_eq_true rfl) dX5_init_16 dX5_init_19 dX5_init_20 hC (fun H1 locs1 hC => ?_)
  refine ci_putF (ci := 5) (C := RX5) (T := TX5) (N := 8) (k := 1) (ft := .object "RingWord$Ring") S hX hin rfl inG5 tyX5 tyX5_ok nmX5 (by decide) (mg 163 (by decide +kernel) (by decide +kernel)) rfl rfl (by decide +kernel) rfl rfl (Nat.le_of_ble_eq_true rfl) dX5_init_23 hC (fun H1 locs1 hC => ?_)
  refine lv_aload_n hx hb dX5_init_26 rfl (lv_at hl 0 rfl) ?_
  refine ci_obj (ci := 2) (N := 4) (C := RX2) (T := TX2) (own := RX5) S hX (mi_2 l) rfl inG2 tyX2 tyX2_ok (fun j hj => by rcases (show j = 0 ∨ j = 1 ∨ j = 2 ∨ j = 3 by omega) with rfl | rfl | rfl | rfl <;> rfl) (mg 65 (by decide +kernel) (by decide +kernel)) (mg 66 (by decide +kernel) (by decide +kernel)) (mg 3 (by decide +kernel) (by decide +kernel)) (mg 3 (by decide +kernel) (by decide +kernel)) (mg 69 (by decide +kernel) (by decide +kernel)) (mg 68 (by decide +kernel) (by decide +kernel)) (by decide +kernel) rfl (by decide +kernel) ⟨(Nat.le_of_ble_eq_true rfl), (Nat.le_of_ble_eq_true rfl)⟩ (tl_2q g) (Nat.le_of_ble_eq_true rfl) (Nat.le_of_ble_eq_true rfl) hl.1 (Nat.le_of_ble_eq_true rfl) dX5_init_27 dX5_init_30 dX5_init_31 hC (fun H1 locs1 hC => ?_)
  refine ci_putF (ci := 5) (C := RX5) (T := TX5) (N := 8) (k := 2) (ft := .object "RingWord$Seen") S hX hin rfl inG5 tyX5 tyX5_ok nmX5 (by decide) (mg 164 (by decide +kernel) (by decide +kernel)) rfl rfl (by decide +kernel) rfl rfl (Nat.le_of_ble_eq_true rfl) dX5_init_34 hC (fun H1 locs1 hC => ?_)
  refine lv_aload_n hx hb dX5_init_37 rfl (lv_at hl 0 rfl) ?_
  refine ci_obj (ci := 4) (N := 7) (C := RX4) (T := TX4) (own := RX5) S hX (mi_4 l) rfl inG4 tyX4 tyX4_ok (fun j hj => by rcases (show j = 0 ∨ j = 1 ∨ j = 2 ∨ j = 3 ∨ j = 4 ∨ j = 5 ∨ j = 6 by omega) with rfl | rfl | rfl | rfl | rfl | rfl | rfl <;> rfl) (mg 85 (by decide +kernel) (by decide +kernel)) (mg 86 (by decide +kernel) (by decide +kernel)) (mg 4 (by decide +kernel) (by decide +kernel)) (mg 4 (by decide +kernel) (by decide +kernel)) (mg 89 (by decide +kernel) (by decide +kernel)) (mg 88 (by decide +kernel) (by decide +kernel)) (by decide +kernel) rfl (by decide +kernel) ⟨(Nat.le_of_ble_eq_true rfl), (Nat.le_of_ble_eq_true rfl)⟩ (tl_4q g) (Nat.le_of_ble_eq_true rfl) (Nat.le_of_ble_eq_true rfl) hl.1 (Nat.le_of_ble_eq_true rfl) dX5_init_38 dX5_init_41 dX5_init_42 hC (fun H1 locs1 hC => ?_)
  refine ci_putF (ci := 5) (C := RX5) (T := TX5) (N := 8) (k := 3) (ft := .object "RingWord$Tape") S hX hin rfl inG5 tyX5 tyX5_ok nmX5 (by decide) (mg 165 (by decide +kernel) (by decide +kernel)) rfl rfl (by decide +kernel) rfl rfl (Nat.le_of_ble_eq_true rfl) dX5_init_45 hC (fun H1 locs1 hC => ?_)
  refine lv_aload_n hx hb dX5_init_48 rfl (lv_at hl 0 rfl) ?_
  refine lv_iconst hx hb dX5_init_49 (v := 2) rfl ?_
  refine ci_newq (C := RX0) (own := RX5) (cA := g.2.1 3) (N := 2) hx hb hown (hts _ (mg 118 (by decide +kernel) (by decide +kernel))) hX.2.2.2.1 ((hX.1.2 3 _ rfl).2).choose_spec.choose_spec.2.2.2 (by decide) rfl (Nat.le_of_ble_eq_true rfl) (Nat.le_of_ble_eq_true rfl) (Nat.le_of_ble_eq_true rfl) dX5_init_50 hC (fun H1 hC => ?_)
  refine ci_putF (ci := 5) (C := RX5) (T := TX5) (N := 8) (k := 4) (ft := .array (.object "RingWord$Image")) S hX hin rfl inG5 tyX5 tyX5_ok nmX5 (by decide) (mg 166 (by decide +kernel) (by decide +kernel)) rfl rfl (by decide +kernel) rfl rfl (Nat.le_of_ble_eq_true rfl) dX5_init_53 hC (fun H1 locs1 hC => ?_)
  refine lv_aload_n hx hb dX5_init_56 rfl (lv_at hl 0 rfl) ?_
  refine lv_iconst hx hb dX5_init_57 (v := 4) rfl ?_
  refine ci_newq (C := RX3) (own := RX5) (cA := g.2.1 4) (N := 4) hx hb hown (hts _ (mg 120 (by decide +kernel) (by decide +kernel))) hX.2.2.2.2 ((hX.1.2 4 _ rfl).2).choose_spec.choose_spec.2.2.2 (by decide) rfl (Nat.le_of_ble_eq_true rfl) (Nat.le_of_ble_eq_true rfl) (Nat.le_of_ble_eq_true rfl) dX5_init_58 hC (fun H1 hC => ?_)
  refine ci_putF (ci := 5) (C := RX5) (T := TX5) (N := 8) (k := 5) (ft := .array (.object "RingWord$Sheet")) S hX hin rfl inG5 tyX5 tyX5_ok nmX5 (by decide) (mg 167 (by decide +kernel) (by decide +kernel)) rfl rfl (by decide +kernel) rfl rfl (Nat.le_of_ble_eq_true rfl) dX5_init_61 hC (fun H1 locs1 hC => ?_)
  refine lv_aload_n hx hb dX5_init_64 rfl (lv_at hl 0 rfl) ?_
  refine lv_bipush hx hb dX5_init_65 (v := 10) rfl ?_
  refine lv_bipush hx hb dX5_init_67 (v := 41) rfl ?_
  refine ci_multi (N := 10) (M := 41) hx hb hown (hts _ (mg 122 (by decide +kernel) (by decide +kernel))) hX (by decide) (by decide) rfl rfl (Nat.le_of_ble_eq_true rfl) (Nat.le_of_ble_eq_true rfl) (Nat.le_of_ble_eq_true rfl) (Nat.le_of_ble_eq_true rfl) dX5_init_69 hC (fun H1 locs1 hC => ?_)
  refine ci_putF (ci := 5) (C := RX5) (T := TX5) (N := 8) (k := 6) (ft := .array (.array .int)) S hX hin rfl inG5 tyX5 tyX5_ok nmX5 (by decide) (mg 168 (by decide +kernel) (by decide +kernel)) rfl rfl (by decide +kernel) rfl rfl (Nat.le_of_ble_eq_true rfl) dX5_init_73 hC (fun H1 locs1 hC => ?_)
  have hC : CWd g (Fr h0 sz) s h0 sz 33 (.inr (5, [.ref sz, .ref (sz + 7), .ref (sz + 14), .ref (sz + 18), .ref (sz + 20), .ref (sz + 21), .ref (sz + 22), .int 0])) (wA g sz (fun _ => none) (fun _ => none)) H1 locs1 := hC
  refine lv_iconst hx hb dX5_init_76 (v := 0) rfl ?_
  refine lv_istore_n hx hb dX5_init_77 rfl hl (by decide) (lv' := [(1, .int 0), (0, .ref h0)]) rfl (fun ls hl => ?_)
  refine lv_iload_n hx hb dX5_init_78 rfl (lv_at hl 0 rfl) ?_
  refine lv_iconst hx hb dX5_init_79 (v := 2) rfl ?_
  refine lv_icmp_ge hx hb dX5_init_80 (tgt := 102) rfl (fun z => absurd z (by decide)) (fun _ => ?_)
  refine lv_aload_n hx hb dX5_init_83 rfl (lv_at hl 1 rfl) ?_
  refine ci_get (ci := 5) (C := RX5) (T := TX5) (N := 8) (k := 4) S hX rfl inG5 (by decide) (mg 166 (by decide +kernel) (by decide +kernel)) rfl dX5_init_84 hC ?_
  refine lv_iload_n hx hb dX5_init_87 rfl (lv_at hl 0 rfl) ?_
  refine ci_obj (ci := 0) (N := 3) (C := RX0) (T := TX0) (own := RX5) S hX (mi_0 l) rfl inG0 tyX0 tyX0_ok (fun j hj => by rcases (show j = 0 ∨ j = 1 ∨ j = 2 by omega) with rfl | rfl | rfl <;> rfl) (mg 118 (by decide +kernel) (by decide +kernel)) (mg 123 (by decide +kernel) (by decide +kernel)) (mg 5 (by decide +kernel) (by decide +kernel)) (mg 5 (by decide +kernel) (by decide +kernel)) (mg 126 (by decide +kernel) (by decide +kernel)) (mg 125 (by decide +kernel) (by decide +kernel)) (by decide +kernel) rfl (by decide +kernel) ⟨(Nat.le_of_ble_eq_true rfl), (Nat.le_of_ble_eq_true rfl)⟩ (tl_0q g) (Nat.le_of_ble_eq_true rfl) (Nat.le_of_ble_eq_true rfl) hl.1 (Nat.le_of_ble_eq_true rfl) dX5_init_88 dX5_init_91 dX5_init_92 hC (fun H1 locs1 hC => ?_)
  refine ci_ast 20 3 33 0 hx hb hX (get_l (wA_20 _ _ _ _)) rfl (get_r (by simp [wA_len, tl_0, tl_1, tl_2, tl_3, mxW])) rfl (by unfold vp_in; decide) dX5_init_95 (by rw [set_l _ _ _ (by simp [wA_len]; try omega), wA_s20]) hC (fun H1 locs1 hC => ?_)
  refine lv_iinc hx hb dX5_init_96 hl (k := 0) rfl (v := 1) rfl (by decide) (lv' := [(1, .int 1), (0, .ref h0)]) rfl (fun ls hl => ?_)
  refine lv_goto hx hb dX5_init_99 (tgt := 78) rfl ?_
  refine lv_iload_n hx hb dX5_init_78 rfl (lv_at hl 0 rfl) ?_
  refine lv_iconst hx hb dX5_init_79 (v := 2) rfl ?_
  refine lv_icmp_ge hx hb dX5_init_80 (tgt := 102) rfl (fun z => absurd z (by decide)) (fun _ => ?_)
  refine lv_aload_n hx hb dX5_init_83 rfl (lv_at hl 1 rfl) ?_
  refine ci_get (ci := 5) (C := RX5) (T := TX5) (N := 8) (k := 4) S hX rfl inG5 (by decide) (mg 166 (by decide +kernel) (by decide +kernel)) rfl dX5_init_84 hC ?_
  refine lv_iload_n hx hb dX5_init_87 rfl (lv_at hl 0 rfl) ?_
  refine ci_obj (ci := 0) (N := 3) (C := RX0) (T := TX0) (own := RX5) S hX (mi_0 l) rfl inG0 tyX0 tyX0_ok (fun j hj => by rcases (show j = 0 ∨ j = 1 ∨ j = 2 by omega) with rfl | rfl | rfl <;> rfl) (mg 118 (by decide +kernel) (by decide +kernel)) (mg 123 (by decide +kernel) (by decide +kernel)) (mg 5 (by decide +kernel) (by decide +kernel)) (mg 5 (by decide +kernel) (by decide +kernel)) (mg 126 (by decide +kernel) (by decide +kernel)) (mg 125 (by decide +kernel) (by decide +kernel)) (by decide +kernel) rfl (by decide +kernel) ⟨(Nat.le_of_ble_eq_true rfl), (Nat.le_of_ble_eq_true rfl)⟩ (tl_0q g) (Nat.le_of_ble_eq_true rfl) (Nat.le_of_ble_eq_true rfl) hl.1 (Nat.le_of_ble_eq_true rfl) dX5_init_88 dX5_init_91 dX5_init_92 hC (fun H1 locs1 hC => ?_)
  refine ci_ast 20 3 45 0 hx hb hX (get_l (get_l (wA_20 _ _ _ _))) rfl (get_r (by simp [wA_len, tl_0, tl_1, tl_2, tl_3, mxW])) rfl (by unfold vp_in; decide) dX5_init_95 (by rw [set_l _ _ _ (by simp [wA_len]; try omega), set_l _ _ _ (by simp [wA_len]; try omega), wA_s20]) hC (fun H1 locs1 hC => ?_)
  refine lv_iinc hx hb dX5_init_96 hl (k := 0) rfl (v := 2) rfl (by decide) (lv' := [(1, .int 2), (0, .ref h0)]) rfl (fun ls hl => ?_)
  refine lv_goto hx hb dX5_init_99 (tgt := 78) rfl ?_
  refine lv_iload_n hx hb dX5_init_78 rfl (lv_at hl 0 rfl) ?_
  refine lv_iconst hx hb dX5_init_79 (v := 2) rfl ?_
  refine lv_icmp_ge hx hb dX5_init_80 (tgt := 102) rfl (fun _ => ?_) (fun z => absurd (by decide) z)
  refine lv_iconst hx hb dX5_init_102 (v := 0) rfl ?_
  refine lv_istore_n hx hb dX5_init_103 rfl hl (by decide) (lv' := [(1, .int 0), (0, .ref h0)]) rfl (fun ls hl => ?_)
  refine lv_iload_n hx hb dX5_init_104 rfl (lv_at hl 0 rfl) ?_
  refine lv_iconst hx hb dX5_init_105 (v := 4) rfl ?_
  refine lv_icmp_ge hx hb dX5_init_106 (tgt := 128) rfl (fun z => absurd z (by decide)) (fun _ => ?_)
  refine lv_aload_n hx hb dX5_init_109 rfl (lv_at hl 1 rfl) ?_
  refine ci_get (ci := 5) (C := RX5) (T := TX5) (N := 8) (k := 5) S hX rfl inG5 (by decide) (mg 167 (by decide +kernel) (by decide +kernel)) rfl dX5_init_110 hC ?_
  refine lv_iload_n hx hb dX5_init_113 rfl (lv_at hl 0 rfl) ?_
  refine ci_obj (ci := 3) (N := 3) (C := RX3) (T := TX3) (own := RX5) S hX (mi_3 l) rfl inG3 tyX3 tyX3_ok (fun j hj => by rcases (show j = 0 ∨ j = 1 ∨ j = 2 by omega) with rfl | rfl | rfl <;> rfl) (mg 120 (by decide +kernel) (by decide +kernel)) (mg 144 (by decide +kernel) (by decide +kernel)) (mg 6 (by decide +kernel) (by decide +kernel)) (mg 6 (by decide +kernel) (by decide +kernel)) (mg 147 (by decide +kernel) (by decide +kernel)) (mg 146 (by decide +kernel) (by decide +kernel)) (by decide +kernel) rfl (by decide +kernel) ⟨(Nat.le_of_ble_eq_true rfl), (Nat.le_of_ble_eq_true rfl)⟩ (tl_3q g) (Nat.le_of_ble_eq_true rfl) (Nat.le_of_ble_eq_true rfl) hl.1 (Nat.le_of_ble_eq_true rfl) dX5_init_114 dX5_init_117 dX5_init_118 hC (fun H1 locs1 hC => ?_)
  refine ci_ast 21 4 57 3 hx hb hX (get_l (get_l (get_l (wA_21 _ _ _ _)))) rfl (get_r (by simp [wA_len, tl_0, tl_1, tl_2, tl_3, mxW])) rfl (by unfold vp_in; decide) dX5_init_121 (by rw [set_l _ _ _ (by simp [wA_len]; try omega), set_l _ _ _ (by simp [wA_len]; try omega), set_l _ _ _ (by simp [wA_len]; try omega), wA_s21]) hC (fun H1 locs1 hC => ?_)
  refine lv_iinc hx hb dX5_init_122 hl (k := 0) rfl (v := 1) rfl (by decide) (lv' := [(1, .int 1), (0, .ref h0)]) rfl (fun ls hl => ?_)
  refine lv_goto hx hb dX5_init_125 (tgt := 104) rfl ?_
  refine lv_iload_n hx hb dX5_init_104 rfl (lv_at hl 0 rfl) ?_
  refine lv_iconst hx hb dX5_init_105 (v := 4) rfl ?_
  refine lv_icmp_ge hx hb dX5_init_106 (tgt := 128) rfl (fun z => absurd z (by decide)) (fun _ => ?_)
  refine lv_aload_n hx hb dX5_init_109 rfl (lv_at hl 1 rfl) ?_
  refine ci_get (ci := 5) (C := RX5) (T := TX5) (N := 8) (k := 5) S hX rfl inG5 (by decide) (mg 167 (by decide +kernel) (by decide +kernel)) rfl dX5_init_110 hC ?_
  refine lv_iload_n hx hb dX5_init_113 rfl (lv_at hl 0 rfl) ?_
  refine ci_obj (ci := 3) (N := 3) (C := RX3) (T := TX3) (own := RX5) S hX (mi_3 l) rfl inG3 tyX3 tyX3_ok (fun j hj => by rcases (show j = 0 ∨ j = 1 ∨ j = 2 by omega) with rfl | rfl | rfl <;> rfl) (mg 120 (by decide +kernel) (by decide +kernel)) (mg 144 (by decide +kernel) (by decide +kernel)) (mg 6 (by decide +kernel) (by decide +kernel)) (mg 6 (by decide +kernel) (by decide +kernel)) (mg 147 (by decide +kernel) (by decide +kernel)) (mg 146 (by decide +kernel) (by decide +kernel)) (by decide +kernel) rfl (by decide +kernel) ⟨(Nat.le_of_ble_eq_true rfl), (Nat.le_of_ble_eq_true rfl)⟩ (tl_3q g) (Nat.le_of_ble_eq_true rfl) (Nat.le_of_ble_eq_true rfl) hl.1 (Nat.le_of_ble_eq_true rfl) dX5_init_114 dX5_init_117 dX5_init_118 hC (fun H1 locs1 hC => ?_)
  refine ci_ast 21 4 59 3 hx hb hX (get_l (get_l (get_l (get_l (wA_21 _ _ _ _))))) rfl (get_r (by simp [wA_len, tl_0, tl_1, tl_2, tl_3, mxW])) rfl (by unfold vp_in; decide) dX5_init_121 (by rw [set_l _ _ _ (by simp [wA_len]; try omega), set_l _ _ _ (by simp [wA_len]; try omega), set_l _ _ _ (by simp [wA_len]; try omega), set_l _ _ _ (by simp [wA_len]; try omega), wA_s21]) hC (fun H1 locs1 hC => ?_)
  refine lv_iinc hx hb dX5_init_122 hl (k := 0) rfl (v := 2) rfl (by decide) (lv' := [(1, .int 2), (0, .ref h0)]) rfl (fun ls hl => ?_)
  refine lv_goto hx hb dX5_init_125 (tgt := 104) rfl ?_
  refine lv_iload_n hx hb dX5_init_104 rfl (lv_at hl 0 rfl) ?_
  refine lv_iconst hx hb dX5_init_105 (v := 4) rfl ?_
  refine lv_icmp_ge hx hb dX5_init_106 (tgt := 128) rfl (fun z => absurd z (by decide)) (fun _ => ?_)
  refine lv_aload_n hx hb dX5_init_109 rfl (lv_at hl 1 rfl) ?_
  refine ci_get (ci := 5) (C := RX5) (T := TX5) (N := 8) (k := 5) S hX rfl inG5 (by decide) (mg 167 (by decide +kernel) (by decide +kernel)) rfl dX5_init_110 hC ?_
  refine lv_iload_n hx hb dX5_init_113 rfl (lv_at hl 0 rfl) ?_
  refine ci_obj (ci := 3) (N := 3) (C := RX3) (T := TX3) (own := RX5) S hX (mi_3 l) rfl inG3 tyX3 tyX3_ok (fun j hj => by rcases (show j = 0 ∨ j = 1 ∨ j = 2 by omega) with rfl | rfl | rfl <;> rfl) (mg 120 (by decide +kernel) (by decide +kernel)) (mg 144 (by decide +kernel) (by decide +kernel)) (mg 6 (by decide +kernel) (by decide +kernel)) (mg 6 (by decide +kernel) (by decide +kernel)) (mg 147 (by decide +kernel) (by decide +kernel)) (mg 146 (by decide +kernel) (by decide +kernel)) (by decide +kernel) rfl (by decide +kernel) ⟨(Nat.le_of_ble_eq_true rfl), (Nat.le_of_ble_eq_true rfl)⟩ (tl_3q g) (Nat.le_of_ble_eq_true rfl) (Nat.le_of_ble_eq_true rfl) hl.1 (Nat.le_of_ble_eq_true rfl) dX5_init_114 dX5_init_117 dX5_init_118 hC (fun H1 locs1 hC => ?_)
  refine ci_ast 21 4 61 3 hx hb hX (get_l (get_l (get_l (get_l (get_l (wA_21 _ _ _ _)))))) rfl (get_r (by simp [wA_len, tl_0, tl_1, tl_2, tl_3, mxW])) rfl (by unfold vp_in; decide) dX5_init_121 (by rw [set_l _ _ _ (by simp [wA_len]; try omega), set_l _ _ _ (by simp [wA_len]; try omega), set_l _ _ _ (by simp [wA_len]; try omega), set_l _ _ _ (by simp [wA_len]; try omega), set_l _ _ _ (by simp [wA_len]; try omega), wA_s21]) hC (fun H1 locs1 hC => ?_)
  refine lv_iinc hx hb dX5_init_122 hl (k := 0) rfl (v := 3) rfl (by decide) (lv' := [(1, .int 3), (0, .ref h0)]) rfl (fun ls hl => ?_)
  refine lv_goto hx hb dX5_init_125 (tgt := 104) rfl ?_
  refine lv_iload_n hx hb dX5_init_104 rfl (lv_at hl 0 rfl) ?_
  refine lv_iconst hx hb dX5_init_105 (v := 4) rfl ?_
  refine lv_icmp_ge hx hb dX5_init_106 (tgt := 128) rfl (fun z => absurd z (by decide)) (fun _ => ?_)
  refine lv_aload_n hx hb dX5_init_109 rfl (lv_at hl 1 rfl) ?_
  refine ci_get (ci := 5) (C := RX5) (T := TX5) (N := 8) (k := 5) S hX rfl inG5 (by decide) (mg 167 (by decide +kernel) (by decide +kernel)) rfl dX5_init_110 hC ?_
  refine lv_iload_n hx hb dX5_init_113 rfl (lv_at hl 0 rfl) ?_
  refine ci_obj (ci := 3) (N := 3) (C := RX3) (T := TX3) (own := RX5) S hX (mi_3 l) rfl inG3 tyX3 tyX3_ok (fun j hj => by rcases (show j = 0 ∨ j = 1 ∨ j = 2 by omega) with rfl | rfl | rfl <;> rfl) (mg 120 (by decide +kernel) (by decide +kernel)) (mg 144 (by decide +kernel) (by decide +kernel)) (mg 6 (by decide +kernel) (by decide +kernel)) (mg 6 (by decide +kernel) (by decide +kernel)) (mg 147 (by decide +kernel) (by decide +kernel)) (mg 146 (by decide +kernel) (by decide +kernel)) (by decide +kernel) rfl (by decide +kernel) ⟨(Nat.le_of_ble_eq_true rfl), (Nat.le_of_ble_eq_true rfl)⟩ (tl_3q g) (Nat.le_of_ble_eq_true rfl) (Nat.le_of_ble_eq_true rfl) hl.1 (Nat.le_of_ble_eq_true rfl) dX5_init_114 dX5_init_117 dX5_init_118 hC (fun H1 locs1 hC => ?_)
  refine ci_ast 21 4 63 3 hx hb hX (get_l (get_l (get_l (get_l (get_l (get_l (wA_21 _ _ _ _))))))) rfl (get_r (by simp [wA_len, tl_0, tl_1, tl_2, tl_3, mxW])) rfl (by unfold vp_in; decide) dX5_init_121 (by rw [set_l _ _ _ (by simp [wA_len]; try omega), set_l _ _ _ (by simp [wA_len]; try omega), set_l _ _ _ (by simp [wA_len]; try omega), set_l _ _ _ (by simp [wA_len]; try omega), set_l _ _ _ (by simp [wA_len]; try omega), set_l _ _ _ (by simp [wA_len]; try omega), wA_s21]) hC (fun H1 locs1 hC => ?_)
  refine lv_iinc hx hb dX5_init_122 hl (k := 0) rfl (v := 4) rfl (by decide) (lv' := [(1, .int 4), (0, .ref h0)]) rfl (fun ls hl => ?_)
  refine lv_goto hx hb dX5_init_125 (tgt := 104) rfl ?_
  refine lv_iload_n hx hb dX5_init_104 rfl (lv_at hl 0 rfl) ?_
  refine lv_iconst hx hb dX5_init_105 (v := 4) rfl ?_
  refine lv_icmp_ge hx hb dX5_init_106 (tgt := 128) rfl (fun _ => ?_) (fun z => absurd (by decide) z)
  exact kk 128 H1 locs1 ls dX5_init_128 hC
