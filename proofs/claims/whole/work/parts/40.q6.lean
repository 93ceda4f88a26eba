theorem bt_a : ∀ s, s < 41 → (Int64.ofNat s).toBitVec.smod 64 = BitVec.ofNat 64 s ∧ (UInt64.ofNat s).toBitVec % 64 = BitVec.ofNat 64 s := by decide
theorem bt_b : ∀ s, s < 13 → (Int32.ofNat s).toBitVec.smod 32 = BitVec.ofNat 32 s ∧ (UInt32.ofNat s).toBitVec % 32 = BitVec.ofNat 32 s := by decide
theorem bt_m (y : BitVec 64) (s : Nat) (hs : s ≤ 40) : (y >>> s).setWidth 32 &&& 255#32 = (y.sshiftRight s).setWidth 32 &&& 255#32 := by
  apply BitVec.eq_of_getLsbD_eq
  intro i hi
  simp only [BitVec.getLsbD_and, BitVec.getLsbD_setWidth, BitVec.getLsbD_ushiftRight, BitVec.getLsbD_sshiftRight]
  by_cases c : i < 8
  · have c1 : ¬ 64 ≤ i := by omega
    have c2 : s + i < 64 := by omega
    simp [c1, c2, hi]
  · have c3 : (255#32).getLsbD i = false := by
      have : ∀ i, i < 32 → ¬ i < 8 → (255#32).getLsbD i = false := by decide
      exact this i hi c
    rw [c3, Bool.and_false, Bool.and_false]
theorem bt_n (y : BitVec 32) (s : Nat) (hs : s ≤ 12) : (y >>> s) &&& 3#32 = (y.sshiftRight s) &&& 3#32 := by
  apply BitVec.eq_of_getLsbD_eq
  intro i hi
  simp only [BitVec.getLsbD_and, BitVec.getLsbD_ushiftRight, BitVec.getLsbD_sshiftRight]
  by_cases c : i < 2
  · have c1 : ¬ 32 ≤ i := by omega
    have c2 : s + i < 32 := by omega
    simp [c1, c2]
  · have c3 : (3#32).getLsbD i = false := by
      have : ∀ i, i < 32 → ¬ i < 2 → (3#32).getLsbD i = false := by decide
      exact this i hi c
    rw [c3, Bool.and_false, Bool.and_false]
theorem bt_ld (x : Int64) (s : Nat) (hs : s ≤ 40) : ((x.toUInt64 >>> (UInt64.ofNat s)).toInt64).toInt32 &&& (255 : Int32) = (x >>> (Int64.ofNat s)).toInt32 &&& (255 : Int32) := by
  apply Int32.toBitVec_inj.mp
  obtain ⟨e2, e1⟩ := bt_a s (by omega)
  simp only [Int32.toBitVec_and, Int64.toBitVec_toInt32, Int64.toBitVec_shiftRight, UInt64.toBitVec_toInt64, UInt64.toBitVec_shiftRight, Int64.toBitVec_toUInt64]
  rw [e1, e2]
  have q := bt_m x.toBitVec s hs
  have n : (BitVec.ofNat 64 s).toNat = s := by simp; omega
  rw [show x.toBitVec >>> BitVec.ofNat 64 s = x.toBitVec >>> (BitVec.ofNat 64 s).toNat from rfl, show x.toBitVec.sshiftRight' (BitVec.ofNat 64 s) = x.toBitVec.sshiftRight (BitVec.ofNat 64 s).toNat from rfl, n]
  rw [BitVec.signExtend_eq_setWidth_of_le _ (by decide), BitVec.signExtend_eq_setWidth_of_le _ (by decide)]
  exact q
theorem bt_la (x : Int32) (s : Nat) (hs : s ≤ 12) : (x.toUInt32 >>> (UInt32.ofNat s)).toInt32 &&& (3 : Int32) = (x >>> (Int32.ofNat s)) &&& (3 : Int32) := by
  apply Int32.toBitVec_inj.mp
  obtain ⟨e2, e1⟩ := bt_b s (by omega)
  simp only [Int32.toBitVec_and, Int32.toBitVec_shiftRight, UInt32.toBitVec_toInt32, UInt32.toBitVec_shiftRight, Int32.toBitVec_toUInt32]
  rw [e1, e2]
  have q := bt_n x.toBitVec s hs
  have n : (BitVec.ofNat 32 s).toNat = s := by simp; omega
  rw [show x.toBitVec >>> BitVec.ofNat 32 s = x.toBitVec >>> (BitVec.ofNat 32 s).toNat from rfl, show x.toBitVec.sshiftRight' (BitVec.ofNat 32 s) = x.toBitVec.sshiftRight (BitVec.ofNat 32 s).toNat from rfl, n]
  exact q
def ldP (x : Int64) (k : Nat) : Nat := ((x >>> (((8 : Int32) * nI k).toInt64 &&& 63)).toInt32 &&& (255 : Int32)).toNatClampNeg
def mkP (x : Int32) (k : Nat) : Nat := ((x >>> (((2 : Int32) * nI k) &&& 31)) &&& (3 : Int32)).toNatClampNeg
theorem ld_le (x : Int64) (k : Nat) : ldP x k ≤ 255 := by
  have h := vp_lt (pk_andIn ((x >>> (((8 : Int32) * nI k).toInt64 &&& 63)).toInt32) 8 (m := 255) (by decide) (by decide))
  unfold ldP
  omega
theorem ld_r (x : Int64) (k : Nat) : (x >>> (((8 : Int32) * nI k).toInt64 &&& 63)).toInt32 &&& (255 : Int32) = nI (ldP x k) := by
  obtain ⟨j, hj, e⟩ := vp_in_of (pk_andIn ((x >>> (((8 : Int32) * nI k).toInt64 &&& 63)).toInt32) 8 (m := 255) (by decide) (by decide)) (by decide)
  unfold ldP
  rw [e, nI_clamp (by omega)]
theorem mk_r (x : Int32) (k : Nat) : (x >>> (((2 : Int32) * nI k) &&& 31)) &&& (3 : Int32) = nI (mkP x k) ∧ mkP x k < 4 := by
  obtain ⟨j, hj, e⟩ := vp_in_of (pk_andIn (x >>> (((2 : Int32) * nI k) &&& 31)) 2 (m := 3) (by decide) (by decide)) (by decide)
  unfold mkP
  rw [e, nI_clamp (by omega)]
  exact ⟨rfl, by omega⟩
theorem bs_a : ∀ k, k < 6 → ((8 : Int32) * nI k).toInt64.toUInt64 &&& Int64.toUInt64 63 = UInt64.ofNat (8 * k) ∧ ((8 : Int32) * nI k).toInt64 &&& 63 = Int64.ofNat (8 * k) ∧ ((2 : Int32) * nI k).toUInt32 &&& Int32.toUInt32 31 = UInt32.ofNat (2 * k) ∧ ((2 : Int32) * nI k) &&& 31 = Int32.ofNat (2 * k) := by decide
theorem ld_c (x : Int64) {k : Nat} (hk : k < 6) : ((x.toUInt64 >>> (((8 : Int32) * nI k).toInt64.toUInt64 &&& Int64.toUInt64 63)).toInt64).toInt32 &&& (255 : Int32) = nI (ldP x k) := by
  obtain ⟨a, b, c, d⟩ := bs_a k hk
  rw [← ld_r, a, b]
  exact bt_ld x (8 * k) (by omega)
theorem mk_c (x : Int32) {k : Nat} (hk : k < 6) : (x.toUInt32 >>> (((2 : Int32) * nI k).toUInt32 &&& Int32.toUInt32 31)).toInt32 &&& (3 : Int32) = nI (mkP x k) := by
  obtain ⟨a, b, c, d⟩ := bs_a k hk
  rw [← (mk_r x k).1, c, d]
  exact bt_la x (2 * k) (by omega)
