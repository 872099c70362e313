theorem sh_m : ∀ i : Nat, i < 32 → ¬ i < 12 → (4095 : Int32).toBitVec.getLsbD i = false := by decide
theorem sh_g (w : Int64) (s : Int32) (k : Nat) (hk : k ≤ 48) (h1 : ((s.toInt64 &&& 63).toBitVec.smod 64).toNat = k) (h2 : (s.toInt64.toUInt64 &&& Int64.toUInt64 63).toNat % 64 = k) : ((w >>> (s.toInt64 &&& 63)).toInt32 &&& 4095) = ((w.toUInt64 >>> (s.toInt64.toUInt64 &&& Int64.toUInt64 63)).toInt64.toInt32 &&& 4095) := by
  generalize s.toInt64 &&& 63 = y at h1 ⊢
  generalize (s.toInt64.toUInt64 &&& Int64.toUInt64 63) = x at h2 ⊢
  apply Int32.toBitVec_inj.mp
  rw [Int32.toBitVec_and, Int32.toBitVec_and]
  have e1 : (w >>> y).toInt32.toBitVec = (w.toBitVec.sshiftRight k).signExtend 32 := by
    rw [← h1]; rfl
  have e : (w.toUInt64 >>> x).toBitVec = w.toBitVec >>> k := by
    apply BitVec.eq_of_toNat_eq
    show (w.toUInt64 >>> x).toNat = _
    rw [UInt64.toNat_shiftRight, h2, BitVec.toNat_ushiftRight]
    rfl
  have e2 : ((w.toUInt64 >>> x).toInt64.toInt32).toBitVec = (w.toBitVec >>> k).signExtend 32 := by
    show ((w.toUInt64 >>> x).toBitVec).signExtend 32 = _
    rw [e]
  rw [e1, e2]
  apply BitVec.eq_of_getLsbD_eq
  intro i hi
  simp only [BitVec.getLsbD_and]
  by_cases h : i < 12
  · congr 1
    rw [BitVec.getLsbD_signExtend, BitVec.getLsbD_signExtend, BitVec.getLsbD_sshiftRight, BitVec.getLsbD_ushiftRight]
    have a1 : i < 64 := by omega
    have a2 : k + i < 64 := by omega
    have a3 : ¬ 64 ≤ i := by omega
    simp [a1, a2, a3]
  · rw [sh_m i hi h]; simp
theorem sh_1_0 (w : Int64) : ((w >>> ((12 * ((1 - 1) - 0) : Int32).toInt64 &&& 63)).toInt32 &&& 4095) = ((w.toUInt64 >>> ((12 * ((1 - 1) - 0) : Int32).toInt64.toUInt64 &&& Int64.toUInt64 63)).toInt64.toInt32 &&& 4095) := sh_g w _ 0 (by decide) (by decide +kernel) (by decide +kernel)
theorem sh_2_0 (w : Int64) : ((w >>> ((12 * ((2 - 1) - 0) : Int32).toInt64 &&& 63)).toInt32 &&& 4095) = ((w.toUInt64 >>> ((12 * ((2 - 1) - 0) : Int32).toInt64.toUInt64 &&& Int64.toUInt64 63)).toInt64.toInt32 &&& 4095) := sh_g w _ 12 (by decide) (by decide +kernel) (by decide +kernel)
theorem sh_2_1 (w : Int64) : ((w >>> ((12 * ((2 - 1) - 1) : Int32).toInt64 &&& 63)).toInt32 &&& 4095) = ((w.toUInt64 >>> ((12 * ((2 - 1) - 1) : Int32).toInt64.toUInt64 &&& Int64.toUInt64 63)).toInt64.toInt32 &&& 4095) := sh_g w _ 0 (by decide) (by decide +kernel) (by decide +kernel)
theorem sh_3_0 (w : Int64) : ((w >>> ((12 * ((3 - 1) - 0) : Int32).toInt64 &&& 63)).toInt32 &&& 4095) = ((w.toUInt64 >>> ((12 * ((3 - 1) - 0) : Int32).toInt64.toUInt64 &&& Int64.toUInt64 63)).toInt64.toInt32 &&& 4095) := sh_g w _ 24 (by decide) (by decide +kernel) (by decide +kernel)
theorem sh_3_1 (w : Int64) : ((w >>> ((12 * ((3 - 1) - 1) : Int32).toInt64 &&& 63)).toInt32 &&& 4095) = ((w.toUInt64 >>> ((12 * ((3 - 1) - 1) : Int32).toInt64.toUInt64 &&& Int64.toUInt64 63)).toInt64.toInt32 &&& 4095) := sh_g w _ 12 (by decide) (by decide +kernel) (by decide +kernel)
theorem sh_3_2 (w : Int64) : ((w >>> ((12 * ((3 - 1) - 2) : Int32).toInt64 &&& 63)).toInt32 &&& 4095) = ((w.toUInt64 >>> ((12 * ((3 - 1) - 2) : Int32).toInt64.toUInt64 &&& Int64.toUInt64 63)).toInt64.toInt32 &&& 4095) := sh_g w _ 0 (by decide) (by decide +kernel) (by decide +kernel)
theorem sh_4_0 (w : Int64) : ((w >>> ((12 * ((4 - 1) - 0) : Int32).toInt64 &&& 63)).toInt32 &&& 4095) = ((w.toUInt64 >>> ((12 * ((4 - 1) - 0) : Int32).toInt64.toUInt64 &&& Int64.toUInt64 63)).toInt64.toInt32 &&& 4095) := sh_g w _ 36 (by decide) (by decide +kernel) (by decide +kernel)
theorem sh_4_1 (w : Int64) : ((w >>> ((12 * ((4 - 1) - 1) : Int32).toInt64 &&& 63)).toInt32 &&& 4095) = ((w.toUInt64 >>> ((12 * ((4 - 1) - 1) : Int32).toInt64.toUInt64 &&& Int64.toUInt64 63)).toInt64.toInt32 &&& 4095) := sh_g w _ 24 (by decide) (by decide +kernel) (by decide +kernel)
theorem sh_4_2 (w : Int64) : ((w >>> ((12 * ((4 - 1) - 2) : Int32).toInt64 &&& 63)).toInt32 &&& 4095) = ((w.toUInt64 >>> ((12 * ((4 - 1) - 2) : Int32).toInt64.toUInt64 &&& Int64.toUInt64 63)).toInt64.toInt32 &&& 4095) := sh_g w _ 12 (by decide) (by decide +kernel) (by decide +kernel)
theorem sh_4_3 (w : Int64) : ((w >>> ((12 * ((4 - 1) - 3) : Int32).toInt64 &&& 63)).toInt32 &&& 4095) = ((w.toUInt64 >>> ((12 * ((4 - 1) - 3) : Int32).toInt64.toUInt64 &&& Int64.toUInt64 63)).toInt64.toInt32 &&& 4095) := sh_g w _ 0 (by decide) (by decide +kernel) (by decide +kernel)
theorem sh_5_0 (w : Int64) : ((w >>> ((12 * ((5 - 1) - 0) : Int32).toInt64 &&& 63)).toInt32 &&& 4095) = ((w.toUInt64 >>> ((12 * ((5 - 1) - 0) : Int32).toInt64.toUInt64 &&& Int64.toUInt64 63)).toInt64.toInt32 &&& 4095) := sh_g w _ 48 (by decide) (by decide +kernel) (by decide +kernel)
theorem sh_5_1 (w : Int64) : ((w >>> ((12 * ((5 - 1) - 1) : Int32).toInt64 &&& 63)).toInt32 &&& 4095) = ((w.toUInt64 >>> ((12 * ((5 - 1) - 1) : Int32).toInt64.toUInt64 &&& Int64.toUInt64 63)).toInt64.toInt32 &&& 4095) := sh_g w _ 36 (by decide) (by decide +kernel) (by decide +kernel)
theorem sh_5_2 (w : Int64) : ((w >>> ((12 * ((5 - 1) - 2) : Int32).toInt64 &&& 63)).toInt32 &&& 4095) = ((w.toUInt64 >>> ((12 * ((5 - 1) - 2) : Int32).toInt64.toUInt64 &&& Int64.toUInt64 63)).toInt64.toInt32 &&& 4095) := sh_g w _ 24 (by decide) (by decide +kernel) (by decide +kernel)
theorem sh_5_3 (w : Int64) : ((w >>> ((12 * ((5 - 1) - 3) : Int32).toInt64 &&& 63)).toInt32 &&& 4095) = ((w.toUInt64 >>> ((12 * ((5 - 1) - 3) : Int32).toInt64.toUInt64 &&& Int64.toUInt64 63)).toInt64.toInt32 &&& 4095) := sh_g w _ 12 (by decide) (by decide +kernel) (by decide +kernel)
theorem sh_5_4 (w : Int64) : ((w >>> ((12 * ((5 - 1) - 4) : Int32).toInt64 &&& 63)).toInt32 &&& 4095) = ((w.toUInt64 >>> ((12 * ((5 - 1) - 4) : Int32).toInt64.toUInt64 &&& Int64.toUInt64 63)).toInt64.toInt32 &&& 4095) := sh_g w _ 0 (by decide) (by decide +kernel) (by decide +kernel)
def ldf (x n : Int32) (w : Int64) : St → Int32 × St := fun (pc, ac, lk, mq, ma, mb, ir, sw, io, dl, ha, rd, sn, md, kf, kb, cn, pf, co, ou) =>
  if n < 1 ∨ 5 < n then (0, (pc, ac, lk, mq, ma, mb, ir, sw, io, dl, ha, rd, sn, md, kf, kb, cn, pf, co, ou)) else if x < 0 ∨ 4096 ≤ x then (0, (pc, ac, lk, mq, ma, mb, ir, sw, io, dl, ha, rd, sn, md, kf, kb, cn, pf, co, ou)) else (1, if n = 1 then (pc, ac, lk, mq, ma, mb, ir, sw, io, dl, ha, rd, sn, md, kf, kb, cn, pf, (upd co ((x + 0) &&& 4095).toNatClampNeg ((w.toUInt64 >>> (((12 * ((1 - 1) - 0)) : Int32).toInt64.toUInt64 &&& Int64.toUInt64 63)).toInt64.toInt32 &&& 4095)), ou) else if n = 2 then (pc, ac, lk, mq, ma, mb, ir, sw, io, dl, ha, rd, sn, md, kf, kb, cn, pf, (upd (upd co ((x + 0) &&& 4095).toNatClampNeg ((w.toUInt64 >>> (((12 * ((2 - 1) - 0)) : Int32).toInt64.toUInt64 &&& Int64.toUInt64 63)).toInt64.toInt32 &&& 4095)) ((x + 1) &&& 4095).toNatClampNeg ((w.toUInt64 >>> (((12 * ((2 - 1) - 1)) : Int32).toInt64.toUInt64 &&& Int64.toUInt64 63)).toInt64.toInt32 &&& 4095)), ou) else if n = 3 then (pc, ac, lk, mq, ma, mb, ir, sw, io, dl, ha, rd, sn, md, kf, kb, cn, pf, (upd (upd (upd co ((x + 0) &&& 4095).toNatClampNeg ((w.toUInt64 >>> (((12 * ((3 - 1) - 0)) : Int32).toInt64.toUInt64 &&& Int64.toUInt64 63)).toInt64.toInt32 &&& 4095)) ((x + 1) &&& 4095).toNatClampNeg ((w.toUInt64 >>> (((12 * ((3 - 1) - 1)) : Int32).toInt64.toUInt64 &&& Int64.toUInt64 63)).toInt64.toInt32 &&& 4095)) ((x + 2) &&& 4095).toNatClampNeg ((w.toUInt64 >>> (((12 * ((3 - 1) - 2)) : Int32).toInt64.toUInt64 &&& Int64.toUInt64 63)).toInt64.toInt32 &&& 4095)), ou) else if n = 4 then (pc, ac, lk, mq, ma, mb, ir, sw, io, dl, ha, rd, sn, md, kf, kb, cn, pf, (upd (upd (upd (upd co ((x + 0) &&& 4095).toNatClampNeg ((w.toUInt64 >>> (((12 * ((4 - 1) - 0)) : Int32).toInt64.toUInt64 &&& Int64.toUInt64 63)).toInt64.toInt32 &&& 4095)) ((x + 1) &&& 4095).toNatClampNeg ((w.toUInt64 >>> (((12 * ((4 - 1) - 1)) : Int32).toInt64.toUInt64 &&& Int64.toUInt64 63)).toInt64.toInt32 &&& 4095)) ((x + 2) &&& 4095).toNatClampNeg ((w.toUInt64 >>> (((12 * ((4 - 1) - 2)) : Int32).toInt64.toUInt64 &&& Int64.toUInt64 63)).toInt64.toInt32 &&& 4095)) ((x + 3) &&& 4095).toNatClampNeg ((w.toUInt64 >>> (((12 * ((4 - 1) - 3)) : Int32).toInt64.toUInt64 &&& Int64.toUInt64 63)).toInt64.toInt32 &&& 4095)), ou) else (pc, ac, lk, mq, ma, mb, ir, sw, io, dl, ha, rd, sn, md, kf, kb, cn, pf, (upd (upd (upd (upd (upd co ((x + 0) &&& 4095).toNatClampNeg ((w.toUInt64 >>> (((12 * ((5 - 1) - 0)) : Int32).toInt64.toUInt64 &&& Int64.toUInt64 63)).toInt64.toInt32 &&& 4095)) ((x + 1) &&& 4095).toNatClampNeg ((w.toUInt64 >>> (((12 * ((5 - 1) - 1)) : Int32).toInt64.toUInt64 &&& Int64.toUInt64 63)).toInt64.toInt32 &&& 4095)) ((x + 2) &&& 4095).toNatClampNeg ((w.toUInt64 >>> (((12 * ((5 - 1) - 2)) : Int32).toInt64.toUInt64 &&& Int64.toUInt64 63)).toInt64.toInt32 &&& 4095)) ((x + 3) &&& 4095).toNatClampNeg ((w.toUInt64 >>> (((12 * ((5 - 1) - 3)) : Int32).toInt64.toUInt64 &&& Int64.toUInt64 63)).toInt64.toInt32 &&& 4095)) ((x + 4) &&& 4095).toNatClampNeg ((w.toUInt64 >>> (((12 * ((5 - 1) - 4)) : Int32).toInt64.toUInt64 &&& Int64.toUInt64 63)).toInt64.toInt32 &&& 4095)), ou))
theorem ld_n {n : Int32} (h1 : ¬ n < 1) (h2 : ¬ 5 < n) : n = 1 ∨ n = 2 ∨ n = 3 ∨ n = 4 ∨ n = 5 := by
  have h0 : ¬ n < 0 := fun z => h1 (Int32.lt_trans z (by decide))
  obtain ⟨j, hj, rfl⟩ := nI_of2 (M := 5) (n := 5) (by decide +kernel) h0 (Int32.not_lt.mp h2)
  have e : (1 : Int32) = nI 1 := by decide +kernel
  rw [e] at h1
  have : ¬ j < 1 := fun z => h1 ((nI_ltI (by omega) (by omega)).mpr z)
  have : j = 1 ∨ j = 2 ∨ j = 3 ∨ j = 4 ∨ j = 5 := by omega
  rcases this with rfl | rfl | rfl | rfl | rfl
  · exact Or.inl rfl
  · exact Or.inr (Or.inl rfl)
  · exact Or.inr (Or.inr (Or.inl rfl))
  · exact Or.inr (Or.inr (Or.inr (Or.inl rfl)))
  · exact Or.inr (Or.inr (Or.inr (Or.inr rfl)))
theorem iv_ldf {n : Nat} {x k : Int32} {w : Int64} {u : St} (I : Iv n u) : Iv n (ldf x k w u).2 := by
  obtain ⟨pc, ac, lk, mq, ma, mb, ir, sw, io, dl, ha, rd, sn, md, kf, kb, cn, pf, co, ou⟩ := u
  by_cases z1 : k < 1 ∨ 5 < k
  · have e : ldf x k w (pc, ac, lk, mq, ma, mb, ir, sw, io, dl, ha, rd, sn, md, kf, kb, cn, pf, co, ou) = (0, (pc, ac, lk, mq, ma, mb, ir, sw, io, dl, ha, rd, sn, md, kf, kb, cn, pf, co, ou)) := if_pos z1
    rw [e]; exact I
  by_cases z2 : x < 0 ∨ 4096 ≤ x
  · have e : ldf x k w (pc, ac, lk, mq, ma, mb, ir, sw, io, dl, ha, rd, sn, md, kf, kb, cn, pf, co, ou) = (0, (pc, ac, lk, mq, ma, mb, ir, sw, io, dl, ha, rd, sn, md, kf, kb, cn, pf, co, ou)) := by
      show (if k < 1 ∨ 5 < k then _ else if x < 0 ∨ 4096 ≤ x then _ else _) = _
      rw [if_neg z1, if_pos z2]
    rw [e]; exact I
  rcases ld_n (fun z => z1 (Or.inl z)) (fun z => z1 (Or.inr z)) with rfl | rfl | rfl | rfl | rfl
  · have e : ldf x 1 w (pc, ac, lk, mq, ma, mb, ir, sw, io, dl, ha, rd, sn, md, kf, kb, cn, pf, co, ou) = (1, (pc, ac, lk, mq, ma, mb, ir, sw, io, dl, ha, rd, sn, md, kf, kb, cn, pf, (upd co ((x + 0) &&& 4095).toNatClampNeg ((w.toUInt64 >>> (((12 * ((1 - 1) - 0)) : Int32).toInt64.toUInt64 &&& Int64.toUInt64 63)).toInt64.toInt32 &&& 4095)), ou)) := by simp [ldf, z2]
    rw [e]; exact iv_load_1 I x w
  · have e : ldf x 2 w (pc, ac, lk, mq, ma, mb, ir, sw, io, dl, ha, rd, sn, md, kf, kb, cn, pf, co, ou) = (1, (pc, ac, lk, mq, ma, mb, ir, sw, io, dl, ha, rd, sn, md, kf, kb, cn, pf, (upd (upd co ((x + 0) &&& 4095).toNatClampNeg ((w.toUInt64 >>> (((12 * ((2 - 1) - 0)) : Int32).toInt64.toUInt64 &&& Int64.toUInt64 63)).toInt64.toInt32 &&& 4095)) ((x + 1) &&& 4095).toNatClampNeg ((w.toUInt64 >>> (((12 * ((2 - 1) - 1)) : Int32).toInt64.toUInt64 &&& Int64.toUInt64 63)).toInt64.toInt32 &&& 4095)), ou)) := by simp [ldf, z2]
    rw [e]; exact iv_load_2 I x w
  · have e : ldf x 3 w (pc, ac, lk, mq, ma, mb, ir, sw, io, dl, ha, rd, sn, md, kf, kb, cn, pf, co, ou) = (1, (pc, ac, lk, mq, ma, mb, ir, sw, io, dl, ha, rd, sn, md, kf, kb, cn, pf, (upd (upd (upd co ((x + 0) &&& 4095).toNatClampNeg ((w.toUInt64 >>> (((12 * ((3 - 1) - 0)) : Int32).toInt64.toUInt64 &&& Int64.toUInt64 63)).toInt64.toInt32 &&& 4095)) ((x + 1) &&& 4095).toNatClampNeg ((w.toUInt64 >>> (((12 * ((3 - 1) - 1)) : Int32).toInt64.toUInt64 &&& Int64.toUInt64 63)).toInt64.toInt32 &&& 4095)) ((x + 2) &&& 4095).toNatClampNeg ((w.toUInt64 >>> (((12 * ((3 - 1) - 2)) : Int32).toInt64.toUInt64 &&& Int64.toUInt64 63)).toInt64.toInt32 &&& 4095)), ou)) := by simp [ldf, z2]
    rw [e]; exact iv_load_3 I x w
  · have e : ldf x 4 w (pc, ac, lk, mq, ma, mb, ir, sw, io, dl, ha, rd, sn, md, kf, kb, cn, pf, co, ou) = (1, (pc, ac, lk, mq, ma, mb, ir, sw, io, dl, ha, rd, sn, md, kf, kb, cn, pf, (upd (upd (upd (upd co ((x + 0) &&& 4095).toNatClampNeg ((w.toUInt64 >>> (((12 * ((4 - 1) - 0)) : Int32).toInt64.toUInt64 &&& Int64.toUInt64 63)).toInt64.toInt32 &&& 4095)) ((x + 1) &&& 4095).toNatClampNeg ((w.toUInt64 >>> (((12 * ((4 - 1) - 1)) : Int32).toInt64.toUInt64 &&& Int64.toUInt64 63)).toInt64.toInt32 &&& 4095)) ((x + 2) &&& 4095).toNatClampNeg ((w.toUInt64 >>> (((12 * ((4 - 1) - 2)) : Int32).toInt64.toUInt64 &&& Int64.toUInt64 63)).toInt64.toInt32 &&& 4095)) ((x + 3) &&& 4095).toNatClampNeg ((w.toUInt64 >>> (((12 * ((4 - 1) - 3)) : Int32).toInt64.toUInt64 &&& Int64.toUInt64 63)).toInt64.toInt32 &&& 4095)), ou)) := by simp [ldf, z2]
    rw [e]; exact iv_load_4 I x w
  · have e : ldf x 5 w (pc, ac, lk, mq, ma, mb, ir, sw, io, dl, ha, rd, sn, md, kf, kb, cn, pf, co, ou) = (1, (pc, ac, lk, mq, ma, mb, ir, sw, io, dl, ha, rd, sn, md, kf, kb, cn, pf, (upd (upd (upd (upd (upd co ((x + 0) &&& 4095).toNatClampNeg ((w.toUInt64 >>> (((12 * ((5 - 1) - 0)) : Int32).toInt64.toUInt64 &&& Int64.toUInt64 63)).toInt64.toInt32 &&& 4095)) ((x + 1) &&& 4095).toNatClampNeg ((w.toUInt64 >>> (((12 * ((5 - 1) - 1)) : Int32).toInt64.toUInt64 &&& Int64.toUInt64 63)).toInt64.toInt32 &&& 4095)) ((x + 2) &&& 4095).toNatClampNeg ((w.toUInt64 >>> (((12 * ((5 - 1) - 2)) : Int32).toInt64.toUInt64 &&& Int64.toUInt64 63)).toInt64.toInt32 &&& 4095)) ((x + 3) &&& 4095).toNatClampNeg ((w.toUInt64 >>> (((12 * ((5 - 1) - 3)) : Int32).toInt64.toUInt64 &&& Int64.toUInt64 63)).toInt64.toInt32 &&& 4095)) ((x + 4) &&& 4095).toNatClampNeg ((w.toUInt64 >>> (((12 * ((5 - 1) - 4)) : Int32).toInt64.toUInt64 &&& Int64.toUInt64 63)).toInt64.toInt32 &&& 4095)), ou)) := by simp [ldf, z2]
    rw [e]; exact iv_load_5 I x w
