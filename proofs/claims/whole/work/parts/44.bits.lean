/-! numbers: an address and a port in one long; the cookie of the class and of the model -/
theorem ck_pokN {b : Int32} (h : ck_pok b) : ∃ q : Nat, q < 65536 ∧ b = nI q := by
  obtain ⟨j, hj, e⟩ := nI_of2 (M := 65535) (n := 65535) rfl (Int32.not_lt.mpr h.1) h.2
  exact ⟨j, by omega, e⟩
theorem ck_nbits {q i : Nat} (hq : q < 65536) (hi : 16 ≤ i) : (nI q).toBitVec.getLsbD i = false := by
  have h1 : (nI q).toBitVec.toNat = q := pk_tn (by omega)
  have h2 : (nI q).toBitVec.getLsbD i = (nI q).toBitVec.toNat.testBit i := rfl
  rw [h2, h1]
  exact Nat.testBit_lt_two_pow (Nat.lt_of_lt_of_le hq (Nat.pow_le_pow_right (n := 2) (by decide) hi))
theorem ck_sxbits {q i : Nat} (hq : q < 65536) (hi : i < 64) : (nI q).toInt64.toBitVec.getLsbD i = (nI q).toBitVec.getLsbD i := by
  rw [Int32.toBitVec_toInt64, BitVec.getLsbD_signExtend]
  by_cases h : i < 32
  · simp [h, hi]
  · have h3 : (nI q).toBitVec.msb = false := by
      rw [BitVec.msb_eq_getLsbD_last]
      exact ck_nbits hq (by decide)
    rw [if_neg h, h3, ck_nbits hq (by omega)]
    simp
theorem ck_shbits (a : Int32) (i : Nat) (hi : i < 64) : (a.toInt64 <<< ((32 : Int32).toInt64 &&& 63)).toBitVec.getLsbD i = (decide (32 ≤ i) && a.toBitVec.getLsbD (i - 32)) := by
  have e : ((32 : Int32).toInt64 &&& 63) = 32 := by decide
  rw [e, Int64.toBitVec_shiftLeft]
  have e2 : ((32 : Int64).toBitVec.smod 64) = 32#64 := by decide
  rw [e2, BitVec.shiftLeft_eq', BitVec.getLsbD_shiftLeft, Int32.toBitVec_toInt64, BitVec.getLsbD_signExtend]
  have e3 : (32#64).toNat = 32 := by decide
  rw [e3]
  by_cases h : 32 ≤ i
  · have h4 : i - 32 < 32 := by omega
    have h5 : i - 32 < 64 := by omega
    simp [h, hi, h4, h5, Nat.not_lt.mpr h]
  · simp [h, Nat.lt_of_not_le h]
theorem ck_clrbits {a : Int32} {q i : Nat} (hq : q < 65536) (hi : i < 64) : (ck_clr a (nI q)).toBitVec.getLsbD i = if 32 ≤ i then a.toBitVec.getLsbD (i - 32) else (nI q).toBitVec.getLsbD i := by
  unfold ck_clr
  rw [Int64.toBitVec_or, BitVec.getLsbD_or, ck_shbits a i hi, ck_sxbits hq hi]
  by_cases h : 32 ≤ i
  · rw [if_pos h, ck_nbits hq (by omega)]
    simp [h]
  · rw [if_neg h]
    simp [h]
theorem ck_clr_inj {a b a' b' : Int32} (hb : ck_pok b) (hb' : ck_pok b') (h : ck_clr a b = ck_clr a' b') : a = a' ∧ b = b' := by
  obtain ⟨q, hq, rfl⟩ := ck_pokN hb
  obtain ⟨q', hq', rfl⟩ := ck_pokN hb'
  constructor
  · apply Int32.toBitVec_inj.mp
    apply BitVec.eq_of_getLsbD_eq
    intro i hi
    have h1 := congrArg (fun z : Int64 => z.toBitVec.getLsbD (i + 32)) h
    simp only [ck_clrbits hq (show i + 32 < 64 by omega), ck_clrbits hq' (show i + 32 < 64 by omega)] at h1
    rw [if_pos (by omega), if_pos (by omega)] at h1
    simpa using h1
  · apply Int32.toBitVec_inj.mp
    apply BitVec.eq_of_getLsbD_eq
    intro i hi
    have h1 := congrArg (fun z : Int64 => z.toBitVec.getLsbD i) h
    simp only [ck_clrbits hq (show i < 64 by omega), ck_clrbits hq' (show i < 64 by omega)] at h1
    rw [if_neg (by omega), if_neg (by omega)] at h1
    exact h1
theorem ck_prt_clr {a b : Int32} (hb : ck_pok b) : ck_prt (ck_clr a b) = b := by
  obtain ⟨q, hq, rfl⟩ := ck_pokN hb
  apply Int32.toBitVec_inj.mp
  apply BitVec.eq_of_getLsbD_eq
  intro i hi
  unfold ck_prt
  have e1 : (65535 : Int32) = nI 65535 := rfl
  rw [Int32.toBitVec_and, BitVec.getLsbD_and, Int64.toBitVec_toInt32, BitVec.signExtend_eq_setWidth_of_le _ (by decide), BitVec.getLsbD_setWidth, ck_clrbits hq (by omega), if_neg (by omega), e1]
  by_cases h : i < 16
  · have h2 : (nI 65535).toBitVec.getLsbD i = true := by
      have h3 : (nI 65535).toBitVec.getLsbD i = (65535 : Nat).testBit i := by
        have h4 : (nI 65535).toBitVec.toNat = 65535 := pk_tn (by decide)
        show (nI 65535).toBitVec.toNat.testBit i = _
        rw [h4]
      rw [h3]
      have h5 : (65535 : Nat) = 2 ^ 16 - 1 := by decide
      rw [h5, Nat.testBit_two_pow_sub_one]
      simpa using h
    simp [hi, h2]
  · rw [ck_nbits hq (by omega)]
    simp
theorem ck_hi_clr {a b : Int32} (hb : ck_pok b) : ck_clr a b &&& (-4294967296) = a.toInt64 <<< ((32 : Int32).toInt64 &&& 63) := by
  obtain ⟨q, hq, rfl⟩ := ck_pokN hb
  apply Int64.toBitVec_inj.mp
  apply BitVec.eq_of_getLsbD_eq
  intro i hi
  rw [Int64.toBitVec_and, BitVec.getLsbD_and, ck_clrbits hq hi, ck_shbits a i hi]
  have e1 : ((-4294967296 : Int64)).toBitVec = ~~~ (BitVec.setWidth 64 (BitVec.allOnes 32)) := by decide
  rw [e1, BitVec.getLsbD_not, BitVec.getLsbD_setWidth, BitVec.getLsbD_allOnes]
  by_cases h : 32 ≤ i
  · rw [if_pos h]
    simp [h, hi, Nat.not_lt.mpr h]
  · rw [if_neg h]
    simp [h, hi, Nat.lt_of_not_le h]
theorem ck_shl_mul (x : Int64) (k : Nat) (s c : Int64) (hk : (s.toBitVec.smod 64).toNat = k) (hc : c.toBitVec = BitVec.twoPow 64 k) : x <<< s = c * x := by
  apply Int64.toBitVec_inj.mp
  rw [Int64.toBitVec_shiftLeft, Int64.toBitVec_mul, hc, BitVec.mul_comm, BitVec.mul_twoPow_eq_shiftLeft, BitVec.shiftLeft_eq', hk]
theorem ck_low (x : Int64) : x.toInt32 &&& 16777215 = (x &&& 16777215).toInt32 := by
  apply Int32.toBitVec_inj.mp
  rw [Int32.toBitVec_and, Int64.toBitVec_toInt32, Int64.toBitVec_toInt32, Int64.toBitVec_and, BitVec.signExtend_eq_setWidth_of_le _ (by decide), BitVec.signExtend_eq_setWidth_of_le _ (by decide), BitVec.setWidth_and]
  congr 1
theorem ck_rem32 {sl : Int32} (h : 0 ≤ sl) : sl &&& 31 = sl - sl / 32 * 32 := by
  obtain ⟨j, hj, rfl⟩ := nI_of (Int32.not_lt.mpr h)
  have e1 : (32 : Int32) = nI 32 := rfl
  rw [e1, pk_rem hj (by decide) (by decide)]
  exact pk_andN (by omega) 5 (by decide)
theorem ck_same {k l : Int64} {a b num kd sl : Int32} (hb : ck_pok b) (hs : 0 ≤ sl) : ck_ckk k l (ck_clr a b) num kd sl = ck_mck k l a b num kd sl := by
  unfold ck_ckk ck_mck
  rw [ck_hi_clr hb, ck_prt_clr hb, ck_rem32 hs, ck_low, ck_shl_mul kd.toInt64 16 ((16 : Int32).toInt64 &&& 63) 65536 (by decide) (by decide), ck_shl_mul sl.toInt64 20 ((20 : Int32).toInt64 &&& 63) 1048576 (by decide) (by decide)]
  rfl
theorem ck_shl16 (x : Int32) : x <<< ((16 : Int32) &&& 31) = 65536 * x := by
  apply Int32.toBitVec_inj.mp
  have e : ((16 : Int32) &&& 31) = 16 := by decide
  have e2 : ((16 : Int32).toBitVec.smod 32).toNat = 16 := by decide
  have e3 : (65536 : Int32).toBitVec = BitVec.twoPow 32 16 := by decide
  rw [e, Int32.toBitVec_shiftLeft, Int32.toBitVec_mul, e3, BitVec.mul_comm, BitVec.mul_twoPow_eq_shiftLeft, BitVec.shiftLeft_eq', e2]
