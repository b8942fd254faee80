/-! numbers: the machine's ints as cuts of unbounded ones -/
/-- the tables' words that stay over calls -/
def gtb : List Jvm.Cond := lw_tbl.filter goodWord
theorem gtb_in : ∀ w ∈ gtb, w ∈ lw_tbl := fun w h => (List.mem_filter.mp h).1
theorem gtb_good : GoodIn gtb gtb := fun w hw => ⟨hw, good_of_word (List.mem_filter.mp hw).2⟩
theorem gtb_law : GoodIn lw_tbl gtb := fun w hw => ⟨gtb_in w hw, good_of_word (List.mem_filter.mp hw).2⟩
/-- a word of the tables by its place -/
theorem mg {w : Jvm.Cond} (i : Nat) (h : tables_1[i]? = some w) (hg : goodWord w = true) : w ∈ gtb := List.mem_filter.mpr ⟨List.mem_append_right _ (List.mem_of_getElem? h), hg⟩
/-- 'selects' of a private method -/
theorem mgs {w : Jvm.Cond} (i : Nat) (h : (k2_sels lw_privs)[i]? = some w) (hg : goodWord w = true) : w ∈ gtb := List.mem_filter.mpr ⟨List.mem_append_left _ (List.mem_of_getElem? h), hg⟩
theorem n_toI {a : Int} (h : InR a) : (Int32.ofInt a).toInt = a := Int32.toInt_ofInt_of_le (by have := h.1; omega) (by have := h.2; omega)
theorem n_toL {a : Int} (h : InL a) : (Int64.ofInt a).toInt = a := Int64.toInt_ofInt_of_le (by have := h.1; omega) (by have := h.2; omega)
theorem n_lt {a b : Int} (ha : InR a) (hb : InR b) : Int32.ofInt a < Int32.ofInt b ↔ a < b := by rw [Int32.lt_iff_toInt_lt, n_toI ha, n_toI hb]
theorem n_le {a b : Int} (ha : InR a) (hb : InR b) : Int32.ofInt a ≤ Int32.ofInt b ↔ a ≤ b := by rw [Int32.le_iff_toInt_le, n_toI ha, n_toI hb]
theorem n_eq {a b : Int} (ha : InR a) (hb : InR b) : Int32.ofInt a = Int32.ofInt b ↔ a = b := by rw [← Int32.toInt_inj, n_toI ha, n_toI hb]
theorem n_0 : (0 : Int32) = Int32.ofInt 0 := rfl
theorem InR0 : InR 0 := by unfold InR; omega
theorem n_nI {a : Int} (h : 0 ≤ a) : Int32.ofInt a = nI a.toNat := by
  unfold nI
  rw [← Int32.ofInt_eq_ofNat, Int.toNat_of_nonneg h]
theorem n_lN {a : Int} (h : 0 ≤ a) : Int64.ofInt a = lN a.toNat := by
  unfold lN
  rw [← Int64.ofInt_eq_ofNat, Int.toNat_of_nonneg h]
theorem n_nIof (n : Nat) : nI n = Int32.ofInt (n : Int) := by unfold nI; rw [Int32.ofInt_eq_ofNat]
theorem n_lNof (n : Nat) : lN n = Int64.ofInt (n : Int) := by unfold lN; rw [Int64.ofInt_eq_ofNat]
theorem n_cl {j : Int} (h : InR j) : (Int32.ofInt j).toNatClampNeg = j.toNat := by
  show (Int32.ofInt j).toInt.toNat = _
  rw [n_toI h]
theorem n_inb {j : Int} {n : Nat} (hn : n < 2147483648) (h : inb j n) : InR j := by
  unfold inb at h; unfold InR; omega
theorem n_in {j : Int} {n : Nat} (hn : n < 2147483648) (h : inb j n) : vp_in (Int32.ofInt j) n := by
  rw [vp_in_iff, n_toI (n_inb hn h)]
  exact h
theorem n_div {a b : Int} (ha : 0 ≤ a) (ha2 : a < 2147483648) (hb : 0 < b) (hb2 : b < 2147483648) : Int32.ofInt a / Int32.ofInt b = Int32.ofInt (a / b) := by
  obtain ⟨n, rfl⟩ := Int.eq_ofNat_of_zero_le ha
  obtain ⟨k, rfl⟩ := Int.eq_ofNat_of_zero_le (Int.le_of_lt hb)
  rw [← n_nIof, ← n_nIof, pk_div (by omega) (by omega) (by omega), n_nIof]
  rfl
theorem n_rem {a b : Int} (ha : 0 ≤ a) (ha2 : a < 2147483648) (hb : 0 < b) (hb2 : b < 2147483648) : Int32.ofInt a - Int32.ofInt a / Int32.ofInt b * Int32.ofInt b = Int32.ofInt (a % b) := by
  obtain ⟨n, rfl⟩ := Int.eq_ofNat_of_zero_le ha
  obtain ⟨k, rfl⟩ := Int.eq_ofNat_of_zero_le (Int.le_of_lt hb)
  rw [← n_nIof, ← n_nIof, pk_rem (by omega) (by omega) (by omega), n_nIof]
  rfl
theorem n_ldiv {a b : Int} (ha : 0 ≤ a) (ha2 : a < 9223372036854775808) (hb : 0 < b) (hb2 : b < 9223372036854775808) : Int64.ofInt a / Int64.ofInt b = Int64.ofInt (a / b) := by
  obtain ⟨n, rfl⟩ := Int.eq_ofNat_of_zero_le ha
  obtain ⟨k, rfl⟩ := Int.eq_ofNat_of_zero_le (Int.le_of_lt hb)
  rw [← n_lNof, ← n_lNof, pk_lDiv (by omega) (by omega) (by omega), n_lNof]
  rfl
theorem n_lrem {a b : Int} (ha : 0 ≤ a) (ha2 : a < 9223372036854775808) (hb : 0 < b) (hb2 : b < 9223372036854775808) : Int64.ofInt a - Int64.ofInt a / Int64.ofInt b * Int64.ofInt b = Int64.ofInt (a % b) := by
  obtain ⟨n, rfl⟩ := Int.eq_ofNat_of_zero_le ha
  obtain ⟨k, rfl⟩ := Int.eq_ofNat_of_zero_le (Int.le_of_lt hb)
  rw [← n_lNof, ← n_lNof, pk_lRem (by omega) (by omega) (by omega), n_lNof]
  rfl
theorem sh_l : ∀ n, n < 32 → ((nI n &&& 31).toBitVec.smod 32).toNat = n := by decide +kernel
theorem sh_u : ∀ n, n < 32 → (((nI n).toUInt32 &&& Int32.toUInt32 31).toBitVec % 32).toNat = n := by decide +kernel
theorem n_bits (a : Int) : (Int32.ofInt a).toBitVec.toNat = (a % 4294967296).toNat := by
  rw [Int32.toBitVec_ofInt, BitVec.toNat_ofInt]
  rfl
theorem n_shl {a b : Int} (hb : 0 ≤ b) (hb2 : b < 31) (ha : 0 ≤ a) (h : a * 2 ^ b.toNat < 2147483648) : Int32.ofInt a <<< (Int32.ofInt b &&& 31) = Int32.ofInt (a * 2 ^ b.toNat) := by
  obtain ⟨n, rfl⟩ := Int.eq_ofNat_of_zero_le ha
  obtain ⟨k, rfl⟩ := Int.eq_ofNat_of_zero_le hb
  rw [Int.toNat_natCast] at h ⊢
  have h' : n * 2 ^ k < 2147483648 := by
    have e : ((n * 2 ^ k : Nat) : Int) = (n : Int) * 2 ^ k := by
      rw [Int.natCast_mul, Int.natCast_pow]
      first | done | rfl
    omega
  rw [← n_nIof, ← n_nIof, pk_shlN _ k (sh_l k (by omega)) (by omega), n_nIof]
  congr 1
theorem n_shr {a b : Int} (hb : 0 ≤ b) (hb2 : b < 32) : Int32.ofInt a >>> (Int32.ofInt b &&& 31) = Int32.ofInt (Int.bmod a 4294967296 / 2 ^ b.toNat) := by
  obtain ⟨k, rfl⟩ := Int.eq_ofNat_of_zero_le hb
  rw [← Int32.ofInt_toInt (Int32.ofInt a >>> (Int32.ofInt (k : Int) &&& 31))]
  rw [← n_nIof, pk_shr _ _ k (sh_l k (by omega)), Int32.toInt_ofInt, Int.toNat_natCast, Int.shiftRight_eq_div_pow]
  rfl
theorem n_ushr {a b : Int} (hb : 0 < b) (hb2 : b < 32) : ((Int32.ofInt a).toUInt32 >>> ((Int32.ofInt b).toUInt32 &&& Int32.toUInt32 31)).toInt32 = Int32.ofInt ((a % 4294967296) / 2 ^ b.toNat) := by
  obtain ⟨k, rfl⟩ := Int.eq_ofNat_of_zero_le (Int.le_of_lt hb)
  apply Int32.toBitVec_inj.mp
  apply BitVec.eq_of_toNat_eq
  rw [← n_nIof, pk_ushr _ _ k (sh_u k (by omega)), n_bits, n_bits, Int.toNat_natCast]
  obtain ⟨z, hz⟩ := Int.eq_ofNat_of_zero_le (Int.emod_nonneg a (show (4294967296 : Int) ≠ 0 by omega))
  have hlt : a % 4294967296 < 4294967296 := Int.emod_lt_of_pos a (by omega)
  rw [hz, Int.toNat_natCast]
  have e : ((z : Int) / 2 ^ k) = ((z / 2 ^ k : Nat) : Int) := by rw [Int.natCast_ediv, Int.natCast_pow]; rfl
  rw [e]
  have h2 : z / 2 ^ k ≤ z := Nat.div_le_self _ _
  rw [Int.emod_eq_of_lt (Int.natCast_nonneg _) (by have := Int.ofNat_le.mpr h2; omega), Int.toNat_natCast]
theorem n_and {a : Int} {b : Int32} (k : Nat) (hk : k ≤ 31) (hb : b.toBitVec.toNat = 2 ^ k - 1) : Int32.ofInt a &&& b = Int32.ofInt (a % (2 ^ k : Nat)) := by
  rw [pk_and _ k hb, n_bits, n_nIof]
  congr 1
  have h0 := Int.emod_nonneg a (show (4294967296 : Int) ≠ 0 by omega)
  rw [Int.natCast_emod, Int.toNat_of_nonneg h0]
  refine Int.emod_emod_of_dvd a ?_
  have : (4294967296 : Int) = ((2 ^ k : Nat) : Int) * ((2 ^ (32 - k) : Nat) : Int) := by
    rw [← Int.natCast_mul, ← Nat.pow_add, show k + (32 - k) = 32 by omega]
    rfl
  rw [this]
  exact Int.dvd_mul_right _ _
theorem n_or {a b : Int} (ha : 0 ≤ a) (ha2 : a < 2147483648) (hb : 0 ≤ b) (hb2 : b < 2147483648) : Int32.ofInt a ||| Int32.ofInt b = Int32.ofInt ((a.toNat ||| b.toNat : Nat) : Int) := by
  obtain ⟨n, rfl⟩ := Int.eq_ofNat_of_zero_le ha
  obtain ⟨k, rfl⟩ := Int.eq_ofNat_of_zero_le hb
  rw [Int.toNat_natCast, Int.toNat_natCast]
  apply Int32.toBitVec_inj.mp
  apply BitVec.eq_of_toNat_eq
  have h3 : n ||| k < 2 ^ 31 := Nat.or_lt_two_pow (by omega) (by omega)
  rw [Int32.toBitVec_or, BitVec.toNat_or, n_bits, n_bits, n_bits, Int.emod_eq_of_lt (by omega) (by omega), Int.emod_eq_of_lt (by omega) (by omega), Int.emod_eq_of_lt (by omega) (by omega), Int.toNat_natCast, Int.toNat_natCast, Int.toNat_natCast]
theorem n_land {a b : Int} (ha : 0 ≤ a) (ha2 : a < 2147483648) (hb : 0 ≤ b) (hb2 : b < 2147483648) : Int32.ofInt a &&& Int32.ofInt b = Int32.ofInt ((a.toNat &&& b.toNat : Nat) : Int) := by
  obtain ⟨n, rfl⟩ := Int.eq_ofNat_of_zero_le ha
  obtain ⟨k, rfl⟩ := Int.eq_ofNat_of_zero_le hb
  rw [Int.toNat_natCast, Int.toNat_natCast]
  apply Int32.toBitVec_inj.mp
  apply BitVec.eq_of_toNat_eq
  have h3 : n &&& k ≤ n := Nat.and_le_left
  rw [Int32.toBitVec_and, BitVec.toNat_and, n_bits, n_bits, n_bits, Int.emod_eq_of_lt (by omega) (by omega), Int.emod_eq_of_lt (by omega) (by omega), Int.emod_eq_of_lt (by omega) (by omega), Int.toNat_natCast, Int.toNat_natCast, Int.toNat_natCast]
theorem n_i2l {a : Int} (h : InR a) : (Int32.ofInt a).toInt64 = Int64.ofInt a := by
  rw [← Int64.ofInt_int32ToInt, n_toI h]
theorem n_i2b (a : Int) : (Int32.ofInt a).toInt8.toInt32 = Int32.ofInt (Int.bmod a 256) := by
  rw [Int32.toInt8_ofInt, ← Int32.ofInt_int8ToInt, Int8.toInt_ofInt]
  first | done | rfl
theorem n_i2s (a : Int) : (Int32.ofInt a).toInt16.toInt32 = Int32.ofInt (Int.bmod a 65536) := by
  rw [Int32.toInt16_ofInt, ← Int32.ofInt_int16ToInt, Int16.toInt_ofInt]
  first | done | rfl
theorem n_bi {n : Int} (h1 : -128 ≤ n) (h2 : n < 128) : (Int8.ofInt n).toInt32 = Int32.ofInt n := by
  rw [← Int32.ofInt_int8ToInt, Int8.toInt_ofInt_of_le (by omega) (by omega)]
theorem n_si {n : Int} (h1 : -32768 ≤ n) (h2 : n < 32768) : (Int16.ofInt n).toInt32 = Int32.ofInt n := by
  rw [← Int32.ofInt_int16ToInt, Int16.toInt_ofInt_of_le (by omega) (by omega)]
theorem n_nb {v : Int} (h1 : -128 ≤ v) (h2 : v < 128) : vp_nar .byte (Int32.ofInt v) = Int32.ofInt v := by
  rw [vp_nar_byte, n_i2b]
  congr 1
  rw [Int.bmod_eq_of_le] <;> omega
theorem n_nz {v : Int} (h : v = 0 ∨ v = 1) : narrow .boolean (.int (Int32.ofInt v)) = .int (Int32.ofInt v) := by
  rcases h with rfl | rfl <;> decide +kernel
theorem n_fz {v : Int} (h : v = 0 ∨ v = 1) : fits .boolean (.int (Int32.ofInt v)) = true := by
  rcases h with rfl | rfl <;> decide +kernel
theorem n_vz {v : Int} (h : v = 0 ∨ v = 1) : vp_nar .boolean (Int32.ofInt v) = Int32.ofInt v := by
  unfold vp_nar
  rw [n_nz h]
