theorem sh_m : ∀ i : Nat, i < 32 → ¬ i < 12 → (4095 : Int32).toBitVec.getLsbD i = false := by decide
theorem sh_g (w : Int64) (s : Int32) (k : Nat) (hk : k ≤ 48) (h1 : ((s.toInt64 &&& 63).toBitVec.smod 64).toNat = k) (h2 : (s.toInt64.toUInt64 &&& Int64.toUInt64 63).toNat % 64 = k) : ((w >>> (s.toInt64 &&& 63)).toInt32 &&& 4095) = ((w.toUInt64 >>> (s.toInt64.toUInt64 &&& Int64.toUInt64 63)).toInt64.toInt32 &&& 4095) := by
  generalize s.toInt64 &&& 63 = y at h1 ⊢
  generalize (s.toInt64.toUInt64 &&& Int64.toUInt64 63) = x at h2 ⊢
  apply Int32.toBitVec_inj.mp
  rw [Int32.toBitVec_and, Int32.toBitVec_and]
  have e1 : (w >>> y).toInt32.toBitVec = (w.toBitVec.sshiftRight k).signExtend 32 := by
    rw [← h1]; rfl
  have e : (w.toUInt64 >>> x).toBitVec = w.toBitVec >>> k := by
    apply BitVec.eq_of_toNat_eq
    show (w.toUInt64 >>> x).toNat = _
    rw [UInt64.toNat_shiftRight, h2, BitVec.toNat_ushiftRight]
    rfl
  have e2 : ((w.toUInt64 >>> x).toInt64.toInt32).toBitVec = (w.toBitVec >>> k).signExtend 32 := by
    show ((w.toUInt64 >>> x).toBitVec).signExtend 32 = _
    rw [e]
  rw [e1, e2]
  apply BitVec.eq_of_getLsbD_eq
  intro i hi
  simp only [BitVec.getLsbD_and]
  by_cases h : i < 12
  · congr 1
    rw [BitVec.getLsbD_signExtend, BitVec.getLsbD_signExtend, BitVec.getLsbD_sshiftRight, BitVec.getLsbD_ushiftRight]
    have a1 : i < 64 := by omega
    have a2 : k + i < 64 := by omega
    have a3 : ¬ 64 ≤ i := by omega
    simp [a1, a2, a3]
  · rw [sh_m i hi h]; simp
theorem sh_1_0 (w : Int64) : ((w >>> ((12 * ((1 - 1) - 0) : Int32).toInt64 &&& 63)).toInt32 &&& 4095) = ((w.toUInt64 >>> ((12 * ((1 - 1) - 0) : Int32).toInt64.toUInt64 &&& Int64.toUInt64 63)).toInt64.toInt32 &&& 4095) := sh_g w _ 0 (by decide) (by decide +kernel) (by decide +kernel)
theorem sh_2_0 (w : Int64) : ((w >>> ((12 * ((2 - 1) - 0) : Int32).toInt64 &&& 63)).toInt32 &&& 4095) = ((w.toUInt64 >>> ((12 * ((2 - 1) - 0) : Int32).toInt64.toUInt64 &&& Int64.toUInt64 63)).toInt64.toInt32 &&& 4095) := sh_g w _ 12 (by decide) (by decide +kernel) (by decide +kernel)
theorem sh_2_1 (w : Int64) : ((w >>> ((12 * ((2 - 1) - 1) : Int32).toInt64 &&& 63)).toInt32 &&& 4095) = ((w.toUInt64 >>> ((12 * ((2 - 1) - 1) : Int32).toInt64.toUInt64 &&& Int64.toUInt64 63)).toInt64.toInt32 &&& 4095) := sh_g w _ 0 (by decide) (by decide +kernel) (by decide +kernel)
theorem sh_3_0 (w : Int64) : ((w >>> ((12 * ((3 - 1) - 0) : Int32).toInt64 &&& 63)).toInt32 &&& 4095) = ((w.toUInt64 >>> ((12 * ((3 - 1) - 0) : Int32).toInt64.toUInt64 &&& Int64.toUInt64 63)).toInt64.toInt32 &&& 4095) := sh_g w _ 24 (by decide) (by decide +kernel) (by decide +kernel)
theorem sh_3_1 (w : Int64) : ((w >>> ((12 * ((3 - 1) - 1) : Int32).toInt64 &&& 63)).toInt32 &&& 4095) = ((w.toUInt64 >>> ((12 * ((3 - 1) - 1) : Int32).toInt64.toUInt64 &&& Int64.toUInt64 63)).toInt64.toInt32 &&& 4095) := sh_g w _ 12 (by decide) (by decide +kernel) (by decide +kernel)
theorem sh_3_2 (w : Int64) : ((w >>> ((12 * ((3 - 1) - 2) : Int32).toInt64 &&& 63)).toInt32 &&& 4095) = ((w.toUInt64 >>> ((12 * ((3 - 1) - 2) : Int32).toInt64.toUInt64 &&& Int64.toUInt64 63)).toInt64.toInt32 &&& 4095) := sh_g w _ 0 (by decide) (by decide +kernel) (by decide +kernel)
theorem sh_4_0 (w : Int64) : ((w >>> ((12 * ((4 - 1) - 0) : Int32).toInt64 &&& 63)).toInt32 &&& 4095) = ((w.toUInt64 >>> ((12 * ((4 - 1) - 0) : Int32).toInt64.toUInt64 &&& Int64.toUInt64 63)).toInt64.toInt32 &&& 4095) := sh_g w _ 36 (by decide) (by decide +kernel) (by decide +kernel)
theorem sh_4_1 (w : Int64) : ((w >>> ((12 * ((4 - 1) - 1) : Int32).toInt64 &&& 63)).toInt32 &&& 4095) = ((w.toUInt64 >>> ((12 * ((4 - 1) - 1) : Int32).toInt64.toUInt64 &&& Int64.toUInt64 63)).toInt64.toInt32 &&& 4095) := sh_g w _ 24 (by decide) (by decide +kernel) (by decide +kernel)
theorem sh_4_2 (w : Int64) : ((w >>> ((12 * ((4 - 1) - 2) : Int32).toInt64 &&& 63)).toInt32 &&& 4095) = ((w.toUInt64 >>> ((12 * ((4 - 1) - 2) : Int32).toInt64.toUInt64 &&& Int64.toUInt64 63)).toInt64.toInt32 &&& 4095) := sh_g w _ 12 (by decide) (by decide +kernel) (by decide +kernel)
theorem sh_4_3 (w : Int64) : ((w >>> ((12 * ((4 - 1) - 3) : Int32).toInt64 &&& 63)).toInt32 &&& 4095) = ((w.toUInt64 >>> ((12 * ((4 - 1) - 3) : Int32).toInt64.toUInt64 &&& Int64.toUInt64 63)).toInt64.toInt32 &&& 4095) := sh_g w _ 0 (by decide) (by decide +kernel) (by decide +kernel)
theorem sh_5_0 (w : Int64) : ((w >>> ((12 * ((5 - 1) - 0) : Int32).toInt64 &&& 63)).toInt32 &&& 4095) = ((w.toUInt64 >>> ((12 * ((5 - 1) - 0) : Int32).toInt64.toUInt64 &&& Int64.toUInt64 63)).toInt64.toInt32 &&& 4095) := sh_g w _ 48 (by decide) (by decide +kernel) (by decide +kernel)
theorem sh_5_1 (w : Int64) : ((w >>> ((12 * ((5 - 1) - 1) : Int32).toInt64 &&& 63)).toInt32 &&& 4095) = ((w.toUInt64 >>> ((12 * ((5 - 1) - 1) : Int32).toInt64.toUInt64 &&& Int64.toUInt64 63)).toInt64.toInt32 &&& 4095) := sh_g w _ 36 (by decide) (by decide +kernel) (by decide +kernel)
theorem sh_5_2 (w : Int64) : ((w >>> ((12 * ((5 - 1) - 2) : Int32).toInt64 &&& 63)).toInt32 &&& 4095) = ((w.toUInt64 >>> ((12 * ((5 - 1) - 2) : Int32).toInt64.toUInt64 &&& Int64.toUInt64 63)).toInt64.toInt32 &&& 4095) := sh_g w _ 24 (by decide) (by decide +kernel) (by decide +kernel)
theorem sh_5_3 (w : Int64) : ((w >>> ((12 * ((5 - 1) - 3) : Int32).toInt64 &&& 63)).toInt32 &&& 4095) = ((w.toUInt64 >>> ((12 * ((5 - 1) - 3) : Int32).toInt64.toUInt64 &&& Int64.toUInt64 63)).toInt64.toInt32 &&& 4095) := sh_g w _ 12 (by decide) (by decide +kernel) (by decide +kernel)
theorem sh_5_4 (w : Int64) : ((w >>> ((12 * ((5 - 1) - 4) : Int32).toInt64 &&& 63)).toInt32 &&& 4095) = ((w.toUInt64 >>> ((12 * ((5 - 1) - 4) : Int32).toInt64.toUInt64 &&& Int64.toUInt64 63)).toInt64.toInt32 &&& 4095) := sh_g w _ 0 (by decide) (by decide +kernel) (by decide +kernel)
