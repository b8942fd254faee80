/-! THE LAW's walk from its entry -/
theorem pm_inj : ∀ i, i < 79 → ∀ j, j < 79 → pm i = pm j → i = j := by decide +kernel
theorem pm_lo : ∀ k, k < 66 → pm k < 66 := by decide +kernel
theorem pm_hi : ∀ i, i < 13 → pm (66 + i) = 66 + i := by decide +kernel
section
variable {p : Program} {l : Launch} {e : Env} {R : Room} {s : State} {m : MethodId} {args : Array Value} {below : List Frame} {meth : Method} {c : Code} {H : Heap} {locs : List Loc} {cells slots : Nat} {Q : State → Prop}
theorem lo_sz {f : JFrame} (hlo : s.heap.size + cells ≤ H.size) (kk : H.size = s.heap.size + cells → W p l e R s m args below meth c H locs cells slots Q f) : W p l e R s m args below meth c H locs cells slots Q f := by
  intro T hT X
  have a := X.heapSize
  rw [hT] at a
  exact kk (by omega) T hT X
end
theorem gi_ok {y : MethodName} {cc : ByteArray} {nL : Nat} (w5 : Jvm.Cond.code y cc nL none ∈ gtb) : GoodIn gtb (Jvm.Cond.code y cc nL none :: gtb) := by
  intro w hw
  rcases List.mem_cons.mp hw with rfl | h
  · exact gtb_good _ w5
  · exact gtb_good _ h
theorem ga_ok {g : Gh} {S0 : Nat} (hg : ∀ k, k < 79 → g.2.2 k = S0 + pm k) : GA g (S0 + 67) := by
  refine ⟨fun i j hi hj e => ?_, fun k hk => ?_, fun i hi => ?_⟩
  · rw [hg i hi, hg j hj] at e
    exact pm_inj i hi j hj (by omega)
  · have a := pm_lo k hk
    rw [hg k (by omega), hg 66 (by decide)]
    show S0 + pm k < S0 + 66
    omega
  · rw [hg _ (by omega), pm_hi i hi]
    omega
theorem eM_ok : ∀ j, j < 30 → defaultValue (tyX6 j) = vp_V [.null, .null, .null, .null, .int 0, .null, .int 0, .int 0, .int 0, .int 0, .int 0, .int 0, .int 0, .int 0, .int 0, .int 0, .int 0, .null, .int 0, .int 0, .long 0, .long 0, .long 0, .null, .null, .null, .null, .null, .int 0, .null] j := by
  intro j hj
  rcases (show j = 0 ∨ j = 1 ∨ j = 2 ∨ j = 3 ∨ j = 4 ∨ j = 5 ∨ j = 6 ∨ j = 7 ∨ j = 8 ∨ j = 9 ∨ j = 10 ∨ j = 11 ∨ j = 12 ∨ j = 13 ∨ j = 14 ∨ j = 15 ∨ j = 16 ∨ j = 17 ∨ j = 18 ∨ j = 19 ∨ j = 20 ∨ j = 21 ∨ j = 22 ∨ j = 23 ∨ j = 24 ∨ j = 25 ∨ j = 26 ∨ j = 27 ∨ j = 28 ∨ j = 29 by omega) with rfl | rfl | rfl | rfl | rfl | rfl | rfl | rfl | rfl | rfl | rfl | rfl | rfl | rfl | rfl | rfl | rfl | rfl | rfl | rfl | rfl | rfl | rfl | rfl | rfl | rfl | rfl | rfl | rfl | rfl <;> rfl
set_option maxRecDepth 20000 in
set_option maxHeartbeats 4000000 in
theorem whole_start {p : Program} {e : Env} {s : State} {m : MethodId} {below : List Frame} {meth : Method} {c : Code} (l : Launch) (hflags : l.flags = flags0) {b L : Nat} {xs : Nat → Int32} (hL : L ≤ 3072) (C0 : lw_At p s m meth c b L xs) : W p l e room_1 s m #[Value.ref b] below meth c s.heap [] 0 0 (lw_Z below #[Value.ref b] s) (entryFrame m ([Value.ref b] : List Value).toArray 4) := by
  obtain ⟨g, hg, h200, hX, hST⟩ := st0 C0
  obtain ⟨hx, hb, hr, hml, hown, hts, hXX, hbl, hlocks, hgv⟩ := C0
  have htg : ∀ w ∈ gtb, w.before #[Value.ref b] s = true := fun w hw => hts w (gtb_in w hw)
  have S : CallFix p m c cL_law 4 s #[Value.ref b] gtb RL := ⟨hx, hb, hml, hown, htg⟩
  have hl := lv_entry ([.ref b]) (n := 4) (Nat.le_of_ble_eq_true rfl)
  rw [lg_entry_eq]
  generalize (lg_sl ([.ref b]) ++ List.replicate (4 - (lg_sl ([.ref b])).length) Slot.unset).toArray = ls at hl ⊢
  have hl : lv_has ls 4 [(0, .ref b)] := hl
  have hKn5 := hX.1.1 5 _ rfl
  have hKn6 := hX.1.1 6 _ rfl
  show W p l e room_1 s m _ below meth c s.heap [] 0 0 _ (F0 m 0 ls [])
  refine W.newcK (n := 8) hx hb hown (htg _ (mg 15 (by decide +kernel) (by decide +kernel))) (htg _ (mg 16 (by decide +kernel) (by decide +kernel))) (htg _ (mg 1 (by decide +kernel) (by decide +kernel))) rfl dL_law_0 (Nat.le_of_ble_eq_true rfl) (Nat.le_of_ble_eq_true rfl) hKn5.2.1 rfl fun H1 kC hkC e1 z1 o1 => ?_
  show W p l e room_1 s m _ below meth c H1 [] (0 + 1) (0 + 8) _ (F0 m 3 ls [.ref s.heap.size])
  refine lv_dup hx hb dL_law_3 rfl ?_
  have hcell : va_P g.1 vwCl [(s.heap.size, .inr (5, [.null, .null, .null, .null, .null, .null, .null, .int 0]))] H1 := one_P ⟨_, rfl, (u_born tyX5 htg inG5 hKn5 hkC e1 tyX5_ok).to (fun j hj => by rcases (show j = 0 ∨ j = 1 ∨ j = 2 ∨ j = 3 ∨ j = 4 ∨ j = 5 ∨ j = 6 ∨ j = 7 by have : j < 8 := hj; omega) with rfl | rfl | rfl | rfl | rfl | rfl | rfl | rfl <;> rfl)⟩
  have hS1 : va_S (fun q => s.heap.size ≤ q) s.heap H1 [] := ⟨by omega, fun q a _ => o1 q a, fun _ h => by cases h⟩
  have hfr : ∀ q, Fr s.heap.size (s.heap.size + 1) q → s.heap.size ≤ q := fun q hq => by unfold Fr at hq; omega
  have hrun := va_runI (l := l) (e := e) (R := room_1) (below := below) (meth := meth) (locs := []) (cells := 0 + 1) (slots := 0 + 8) (As := []) (rest := [.ref s.heap.size]) (b := s.heap.size) (g := F0 m 4 ls [.ref s.heap.size, .ref s.heap.size]) (H := H1) S (mi_5 l g s.heap.size (s.heap.size + 1)) (cwI 0 htg (gi_ok (mg 19 (by decide +kernel) (by decide +kernel))) rfl rfl rfl (htg _ (mg 1 (by decide +kernel) (by decide +kernel))) (htg _ (mg 17 (by decide +kernel) (by decide +kernel))) (htg _ (mg 18 (by decide +kernel) (by decide +kernel))) rfl (by decide +kernel) ⟨Nat.le_of_ble_eq_true rfl, Nat.le_of_ble_eq_true rfl⟩) ⟨PreI.blind, fun U hU hW => ⟨rfl, by rw [hU]; exact z1, by rw [hU]; exact hcell, XC.warm hW hX⟩⟩ rfl rfl hl.1 rfl (lv_room (Nat.le_of_ble_eq_true rfl)) dL_law_4 ⟨Nat.le_of_ble_eq_true rfl, Nat.le_of_ble_eq_true rfl⟩
  refine va_callv hrun hS1 (fun q _ h => hfr q h) hfr (fun u t H2 locs2 ht hvm hp hB hz2 hk2 hS2 => ?_)
  rw [ht] at hB
  have hcls := cls_ok hg hB
  refine lv_astore_n hx hb dL_law_7 rfl hl (by decide) (lv' := [(1, .ref s.heap.size), (0, .ref b)]) rfl (fun ls hl => ?_)
  have h66 : g.2.2 66 = s.heap.size + 66 := hg 66 (by decide)
  have h0 : g.2.2 0 = s.heap.size := hg 0 (by decide)
  refine lo_sz (by have a := (hcls 54 (by decide)).lt; rw [hg 54 (by decide)] at a; have a : s.heap.size + 65 < H2.size := a; omega) fun hz => ?_
  refine W.newcK (n := 30) (h := g.2.2 66) hx hb hown (htg _ (mg 597 (by decide +kernel) (by decide +kernel))) (htg _ (mg 598 (by decide +kernel) (by decide +kernel))) (htg _ (mg 7 (by decide +kernel) (by decide +kernel))) rfl dL_law_8 (Nat.le_of_ble_eq_true rfl) (Nat.le_of_ble_eq_true rfl) hKn6.2.1 (by rw [h66]; exact hz) fun H3 kC3 hkC3 e3 z3 o3 => ?_
  show W p l e room_1 s m _ below meth c H3 locs2 (0 + 1 + 65 + 1) _ _ (F0 m 11 ls [.ref (g.2.2 66)])
  refine lv_dup hx hb dL_law_11 rfl ?_
  have hz66 : H2.size = g.2.2 66 := by rw [h66]; exact hz
  have hcell6 : va_P g.1 vwCl [(g.2.2 66, eM0)] H3 := one_P ⟨_, rfl, (u_born tyX6 htg inG6 hKn6 hkC3 e3 tyX6_ok).to (fun j hj => eM_ok j hj)⟩
  have hcls3 : ∀ k, k < 66 → va_at g.1 vwCl (g.2.2 k, pic g mu0 k) H3 := fun k hk => (hcls k hk).kept (o3 _ (by have := (hcls k hk).lt; rw [hz66] at this; exact this))
  have hS3 : va_S (fun q => s.heap.size ≤ q) s.heap H3 locs2 := ⟨Nat.le_trans hS2.1 (by omega), fun q a b => (o3 q (by rw [h66]; exact Nat.lt_of_lt_of_le a (Nat.le_add_right _ _))).trans (hS2.2.1 q a b), hS2.2.2⟩
  have hA2 : ∀ q, A2x g (s.heap.size + 67) q → s.heap.size ≤ q := fun q hq => by
    rcases hq with ⟨k, hk, z⟩ | z
    · rw [z, hg k hk]; exact Nat.le_add_right _ _
    · exact Nat.le_trans (Nat.le_add_right _ _) z
  have hrun6 := va_runI (l := l) (e := e) (R := room_1) (below := below) (meth := meth) (locs := locs2) (cells := 0 + 1 + 65 + 1) (slots := 0 + 8 + 1025 + 30) (As := []) (rest := [.ref (g.2.2 66)]) (b := g.2.2 66) (g := F0 m 12 ls [.ref (g.2.2 66), .ref (g.2.2 66)]) (H := H3) S (mi_6 l (ga_ok hg)) (cwI 0 htg (gi_ok (mg 601 (by decide +kernel) (by decide +kernel))) rfl rfl rfl (htg _ (mg 7 (by decide +kernel) (by decide +kernel))) (htg _ (mg 599 (by decide +kernel) (by decide +kernel))) (htg _ (mg 600 (by decide +kernel) (by decide +kernel))) rfl (by decide +kernel) ⟨Nat.le_of_ble_eq_true rfl, Nat.le_of_ble_eq_true rfl⟩) ⟨PreX.blind, fun U hU hW => ⟨rfl, by rw [hU, z3]; omega, fun k hk => by rw [hU]; exact hcls3 k hk, by rw [hU]; exact hcell6, XC.warm hW hX, by rw [hU]; exact ST.warm hW ((hST.kept (fun a h1 h2 => hS3.2.1 a h1 h2)).narrow hA2)⟩⟩ rfl rfl hl.1 rfl (lv_room (Nat.le_of_ble_eq_true rfl)) dL_law_12 ⟨Nat.le_of_ble_eq_true rfl, Nat.le_of_ble_eq_true rfl⟩
  refine va_callv hrun6 hS3 (fun q _ h => hA2 q h) hA2 (fun u6 t6 H4 locs4 ht4 hvm4 hp4 hB4 hz4 hk4 hS4 => ?_)
  rw [ht4] at hB4
  refine lv_astore_n hx hb dL_law_15 rfl hl (by decide) (lv' := [(2, .ref (g.2.2 66)), (1, .ref s.heap.size), (0, .ref b)]) rfl (fun ls hl => ?_)
  refine lv_iconst hx hb dL_law_16 (v := 0) rfl ?_
  refine lv_istore_n hx hb dL_law_17 rfl hl (by decide) (lv' := [(3, .int 0), (2, .ref (g.2.2 66)), (1, .ref s.heap.size), (0, .ref b)]) rfl (fun ls hl => ?_)
  have hG := ga_ok hg
  have CC : CF p room_1 s m #[Value.ref b] c cL_law 4 RL g (fun q => s.heap.size ≤ q) (0 + 1 + 65 + 1 + 12) (0 + 8 + 1025 + 30 + 1310) 12 := ⟨S, hX.1, hG.1, hST, fun q h => hA2 q (Or.inl h), Nat.le_of_ble_eq_true rfl, Nat.le_of_ble_eq_true rfl, Nat.le_of_ble_eq_true rfl, Nat.le_of_ble_eq_true rfl⟩
  have hclos := closL_sound (l := l) (e := e) (below := below) (meth := meth) (Q := lw_Z below #[Value.ref b] s) (K := fun r _ => r = [.inl 1]) (sc := fun j => (xs j).toInt) (SL := L) (xs := xs) (G := G_L) CC (by rw [h200]; exact hXX) (by rw [h200]; exact hbl) (by rw [h200]; exact Nat.not_le.mpr hbl) (fun j => Int32.ofInt_toInt _) hL (gk_L l) (by
    intro go pc L' stk μ len i hi hd h hl H locs ls hP hS hv
    rcases hi with rfl | rfl | rfl
    · obtain ⟨rfl, h⟩ := h
      split at h
      · rename_i v
        obtain ⟨-, h2⟩ := h
        cases h2
        exact va_forget (fun q hq => hS.2.2 q hq) (W.widen (Nat.le_of_ble_eq_true rfl) (Nat.le_of_ble_eq_true rfl) (lw_ret hx hb hr hlocks hd))
      · exact h.elim
    · obtain ⟨rfl, h⟩ := h
      split at h
      · obtain ⟨h1, -⟩ := h; omega
      · exact h.elim
    · obtain ⟨rfl, h⟩ := h
      split at h
      · obtain ⟨h1, -⟩ := h; omega
      · exact h.elim)
  refine lp_law _ (fun j => (xs j).toInt) L hclos (fun j => by have a := Int32.le_toInt (xs j); have b := Int32.toInt_lt (xs j); unfold InR; omega) hL L 0 (by omega) (by omega) (fz mu0) REL0 rfl H4 locs4 ls hB4 hS4 (lv_mono hl (fun q hq => ?_))
  obtain ⟨v, hv1, hv2⟩ := lvs_mem.mp hq
  obtain ⟨a, b'⟩ := q
  simp only at hv1 hv2
  match a, hv1 with
  | 0, hv1 => simp [lg] at hv1; subst hv1; rw [hv2]; simp [cv, h200]
  | 1, hv1 => simp [lg] at hv1; subst hv1; rw [hv2]; simp [cv, h0]
  | 2, hv1 => simp [lg] at hv1; subst hv1; rw [hv2]; simp [cv]
  | 3, hv1 => simp [lg] at hv1; subst hv1; rw [hv2]; simp [cv]
  | a + 4, hv1 => simp [lg] at hv1
