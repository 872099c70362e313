def rk (x : Int32) : Nat := if x = 0 then 8 else if x = 1 then 7 else if x = 2 then 6 else if x = 3 then 5 else if x = 4 then 4 else if x = 5 then 3 else if x = 8 then 2 else if x = 9 then 2 else if x = 10 then 2 else if x = 11 then 2 else if x = 12 then 2 else if x = 13 then 1 else if x = 15 then 1 else if x = 16 then 1 else if x = 17 then 1 else if x = 18 then 1 else if x = 19 then 1 else if x = 20 then 6 else if x = 21 then 5 else if x = 22 then 4 else if x = 23 then 3 else if x = 24 then 2 else if x = 25 then 1 else if x = 26 then 3 else if x = 27 then 2 else if x = 28 then 1 else if x = 30 then 2 else if x = 31 then 1 else if x = 32 then 3 else if x = 33 then 1 else if x = 34 then 2 else if x = 35 then 1 else if x = 36 then 2 else if x = 37 then 1 else if x = 40 then 2 else if x = 41 then 1 else 0
theorem rk_0_ {n : Nat} {pc ac lk mq ma mb ir sw io dl ha rd md kf kb cn pf : Int32} {co ou : Nat → Int32} (I : Iv n (pc, ac, lk, mq, ma, mb, ir, sw, io, dl, ha, rd, 0, md, kf, kb, cn, pf, co, ou)) : (mu0 (pc, ac, lk, mq, ma, mb, ir, sw, io, dl, ha, rd, 0, md, kf, kb, cn, pf, co, ou)).1 = 0 ∨ rk (mu0 (pc, ac, lk, mq, ma, mb, ir, sw, io, dl, ha, rd, 0, md, kf, kb, cn, pf, co, ou)).1 < rk 0 := by
  show (if io = 0 ∨ ¬ dl = 0 ∨ (kf = 0 ∧ pf = 0) then _ else _ : Int32 × St).1 = 0 ∨ rk (if io = 0 ∨ ¬ dl = 0 ∨ (kf = 0 ∧ pf = 0) then _ else _ : Int32 × St).1 < _
  split
  · exact Or.inr (show rk 1 < rk 0 by decide)
  · exact Or.inr (show rk 40 < rk 0 by decide)
theorem rk_1_ {n : Nat} {pc ac lk mq ma mb ir sw io dl ha rd md kf kb cn pf : Int32} {co ou : Nat → Int32} (I : Iv n (pc, ac, lk, mq, ma, mb, ir, sw, io, dl, ha, rd, 1, md, kf, kb, cn, pf, co, ou)) : (mu1 (pc, ac, lk, mq, ma, mb, ir, sw, io, dl, ha, rd, 1, md, kf, kb, cn, pf, co, ou)).1 = 0 ∨ rk (mu1 (pc, ac, lk, mq, ma, mb, ir, sw, io, dl, ha, rd, 1, md, kf, kb, cn, pf, co, ou)).1 < rk 1 := by
  show (if (co (ma &&& 4095).toNatClampNeg) < 3584 then (if (co (ma &&& 4095).toNatClampNeg) < 3072 then 2 else 32) else 20 : Int32) = 0 ∨ rk (if (co (ma &&& 4095).toNatClampNeg) < 3584 then (if (co (ma &&& 4095).toNatClampNeg) < 3072 then 2 else 32) else 20) < _
  repeat' split
  all_goals first | exact Or.inl rfl | exact Or.inr (by decide)
theorem rk_2_ {n : Nat} {pc ac lk mq ma mb ir sw io dl ha rd md kf kb cn pf : Int32} {co ou : Nat → Int32} (I : Iv n (pc, ac, lk, mq, ma, mb, ir, sw, io, dl, ha, rd, 2, md, kf, kb, cn, pf, co, ou)) : (mu2 (pc, ac, lk, mq, ma, mb, ir, sw, io, dl, ha, rd, 2, md, kf, kb, cn, pf, co, ou)).1 = 0 ∨ rk (mu2 (pc, ac, lk, mq, ma, mb, ir, sw, io, dl, ha, rd, 2, md, kf, kb, cn, pf, co, ou)).1 < rk 2 := by
  obtain ⟨⟨-, -, -, -, -, hir, -⟩, -, -, -, hlt, -⟩ := id I
  obtain ⟨z, hz, ez⟩ := di_8 hir (hlt (by decide))
  show ((if ir &&& 256 = 0 then 8 + ir / 512 else 3) : Int32) = 0 ∨ rk ((if ir &&& 256 = 0 then 8 + ir / 512 else 3)) < _
  split
  · rw [ez]; rcases hz with rfl | rfl | rfl | rfl | rfl | rfl <;> exact Or.inr (by decide)
  · exact Or.inr (by decide)
theorem rk_3_ {n : Nat} {pc ac lk mq ma mb ir sw io dl ha rd md kf kb cn pf : Int32} {co ou : Nat → Int32} (I : Iv n (pc, ac, lk, mq, ma, mb, ir, sw, io, dl, ha, rd, 3, md, kf, kb, cn, pf, co, ou)) : (mu3 (pc, ac, lk, mq, ma, mb, ir, sw, io, dl, ha, rd, 3, md, kf, kb, cn, pf, co, ou)).1 = 0 ∨ rk (mu3 (pc, ac, lk, mq, ma, mb, ir, sw, io, dl, ha, rd, 3, md, kf, kb, cn, pf, co, ou)).1 < rk 3 := by
  show (if ma < 8 ∨ 15 < ma then 5 else 4 : Int32) = 0 ∨ rk (if ma < 8 ∨ 15 < ma then 5 else 4) < _
  repeat' split
  all_goals first | exact Or.inl rfl | exact Or.inr (by decide)
theorem rk_4_ {n : Nat} {pc ac lk mq ma mb ir sw io dl ha rd md kf kb cn pf : Int32} {co ou : Nat → Int32} (I : Iv n (pc, ac, lk, mq, ma, mb, ir, sw, io, dl, ha, rd, 4, md, kf, kb, cn, pf, co, ou)) : (mu4 (pc, ac, lk, mq, ma, mb, ir, sw, io, dl, ha, rd, 4, md, kf, kb, cn, pf, co, ou)).1 = 0 ∨ rk (mu4 (pc, ac, lk, mq, ma, mb, ir, sw, io, dl, ha, rd, 4, md, kf, kb, cn, pf, co, ou)).1 < rk 4 := by
  exact Or.inr (show rk 5 < rk 4 by decide)
theorem rk_5_ {n : Nat} {pc ac lk mq ma mb ir sw io dl ha rd md kf kb cn pf : Int32} {co ou : Nat → Int32} (I : Iv n (pc, ac, lk, mq, ma, mb, ir, sw, io, dl, ha, rd, 5, md, kf, kb, cn, pf, co, ou)) : (mu5 (pc, ac, lk, mq, ma, mb, ir, sw, io, dl, ha, rd, 5, md, kf, kb, cn, pf, co, ou)).1 = 0 ∨ rk (mu5 (pc, ac, lk, mq, ma, mb, ir, sw, io, dl, ha, rd, 5, md, kf, kb, cn, pf, co, ou)).1 < rk 5 := by
  obtain ⟨⟨-, -, -, -, -, hir, -⟩, -, -, -, hlt, -⟩ := id I
  obtain ⟨z, hz, ez⟩ := di_8 hir (hlt (by decide))
  show (8 + ir / 512 : Int32) = 0 ∨ rk (8 + ir / 512) < _
  rw [ez]; rcases hz with rfl | rfl | rfl | rfl | rfl | rfl <;> exact Or.inr (by decide)
theorem rk_8_ {n : Nat} {pc ac lk mq ma mb ir sw io dl ha rd md kf kb cn pf : Int32} {co ou : Nat → Int32} (I : Iv n (pc, ac, lk, mq, ma, mb, ir, sw, io, dl, ha, rd, 8, md, kf, kb, cn, pf, co, ou)) : (mu8 (pc, ac, lk, mq, ma, mb, ir, sw, io, dl, ha, rd, 8, md, kf, kb, cn, pf, co, ou)).1 = 0 ∨ rk (mu8 (pc, ac, lk, mq, ma, mb, ir, sw, io, dl, ha, rd, 8, md, kf, kb, cn, pf, co, ou)).1 < rk 8 := by
  exact Or.inr (show rk 16 < rk 8 by decide)
theorem rk_9_ {n : Nat} {pc ac lk mq ma mb ir sw io dl ha rd md kf kb cn pf : Int32} {co ou : Nat → Int32} (I : Iv n (pc, ac, lk, mq, ma, mb, ir, sw, io, dl, ha, rd, 9, md, kf, kb, cn, pf, co, ou)) : (mu9 (pc, ac, lk, mq, ma, mb, ir, sw, io, dl, ha, rd, 9, md, kf, kb, cn, pf, co, ou)).1 = 0 ∨ rk (mu9 (pc, ac, lk, mq, ma, mb, ir, sw, io, dl, ha, rd, 9, md, kf, kb, cn, pf, co, ou)).1 < rk 9 := by
  exact Or.inr (show rk 17 < rk 9 by decide)
theorem rk_10_ {n : Nat} {pc ac lk mq ma mb ir sw io dl ha rd md kf kb cn pf : Int32} {co ou : Nat → Int32} (I : Iv n (pc, ac, lk, mq, ma, mb, ir, sw, io, dl, ha, rd, 10, md, kf, kb, cn, pf, co, ou)) : (mu10 (pc, ac, lk, mq, ma, mb, ir, sw, io, dl, ha, rd, 10, md, kf, kb, cn, pf, co, ou)).1 = 0 ∨ rk (mu10 (pc, ac, lk, mq, ma, mb, ir, sw, io, dl, ha, rd, 10, md, kf, kb, cn, pf, co, ou)).1 < rk 10 := by
  exact Or.inr (show rk 18 < rk 10 by decide)
theorem rk_11_ {n : Nat} {pc ac lk mq ma mb ir sw io dl ha rd md kf kb cn pf : Int32} {co ou : Nat → Int32} (I : Iv n (pc, ac, lk, mq, ma, mb, ir, sw, io, dl, ha, rd, 11, md, kf, kb, cn, pf, co, ou)) : (mu11 (pc, ac, lk, mq, ma, mb, ir, sw, io, dl, ha, rd, 11, md, kf, kb, cn, pf, co, ou)).1 = 0 ∨ rk (mu11 (pc, ac, lk, mq, ma, mb, ir, sw, io, dl, ha, rd, 11, md, kf, kb, cn, pf, co, ou)).1 < rk 11 := by
  exact Or.inr (show rk 19 < rk 11 by decide)
theorem rk_12_ {n : Nat} {pc ac lk mq ma mb ir sw io dl ha rd md kf kb cn pf : Int32} {co ou : Nat → Int32} (I : Iv n (pc, ac, lk, mq, ma, mb, ir, sw, io, dl, ha, rd, 12, md, kf, kb, cn, pf, co, ou)) : (mu12 (pc, ac, lk, mq, ma, mb, ir, sw, io, dl, ha, rd, 12, md, kf, kb, cn, pf, co, ou)).1 = 0 ∨ rk (mu12 (pc, ac, lk, mq, ma, mb, ir, sw, io, dl, ha, rd, 12, md, kf, kb, cn, pf, co, ou)).1 < rk 12 := by
  exact Or.inr (show rk 15 < rk 12 by decide)
theorem rk_13_ {n : Nat} {pc ac lk mq ma mb ir sw io dl ha rd md kf kb cn pf : Int32} {co ou : Nat → Int32} (I : Iv n (pc, ac, lk, mq, ma, mb, ir, sw, io, dl, ha, rd, 13, md, kf, kb, cn, pf, co, ou)) : (mu13 (pc, ac, lk, mq, ma, mb, ir, sw, io, dl, ha, rd, 13, md, kf, kb, cn, pf, co, ou)).1 = 0 ∨ rk (mu13 (pc, ac, lk, mq, ma, mb, ir, sw, io, dl, ha, rd, 13, md, kf, kb, cn, pf, co, ou)).1 < rk 13 := by
  exact Or.inl rfl
theorem rk_15_ {n : Nat} {pc ac lk mq ma mb ir sw io dl ha rd md kf kb cn pf : Int32} {co ou : Nat → Int32} (I : Iv n (pc, ac, lk, mq, ma, mb, ir, sw, io, dl, ha, rd, 15, md, kf, kb, cn, pf, co, ou)) : (mu15 (pc, ac, lk, mq, ma, mb, ir, sw, io, dl, ha, rd, 15, md, kf, kb, cn, pf, co, ou)).1 = 0 ∨ rk (mu15 (pc, ac, lk, mq, ma, mb, ir, sw, io, dl, ha, rd, 15, md, kf, kb, cn, pf, co, ou)).1 < rk 15 := by
  exact Or.inl rfl
theorem rk_16_ {n : Nat} {pc ac lk mq ma mb ir sw io dl ha rd md kf kb cn pf : Int32} {co ou : Nat → Int32} (I : Iv n (pc, ac, lk, mq, ma, mb, ir, sw, io, dl, ha, rd, 16, md, kf, kb, cn, pf, co, ou)) : (mu16 (pc, ac, lk, mq, ma, mb, ir, sw, io, dl, ha, rd, 16, md, kf, kb, cn, pf, co, ou)).1 = 0 ∨ rk (mu16 (pc, ac, lk, mq, ma, mb, ir, sw, io, dl, ha, rd, 16, md, kf, kb, cn, pf, co, ou)).1 < rk 16 := by
  exact Or.inl rfl
theorem rk_17_ {n : Nat} {pc ac lk mq ma mb ir sw io dl ha rd md kf kb cn pf : Int32} {co ou : Nat → Int32} (I : Iv n (pc, ac, lk, mq, ma, mb, ir, sw, io, dl, ha, rd, 17, md, kf, kb, cn, pf, co, ou)) : (mu17 (pc, ac, lk, mq, ma, mb, ir, sw, io, dl, ha, rd, 17, md, kf, kb, cn, pf, co, ou)).1 = 0 ∨ rk (mu17 (pc, ac, lk, mq, ma, mb, ir, sw, io, dl, ha, rd, 17, md, kf, kb, cn, pf, co, ou)).1 < rk 17 := by
  exact Or.inl rfl
theorem rk_18_ {n : Nat} {pc ac lk mq ma mb ir sw io dl ha rd md kf kb cn pf : Int32} {co ou : Nat → Int32} (I : Iv n (pc, ac, lk, mq, ma, mb, ir, sw, io, dl, ha, rd, 18, md, kf, kb, cn, pf, co, ou)) : (mu18 (pc, ac, lk, mq, ma, mb, ir, sw, io, dl, ha, rd, 18, md, kf, kb, cn, pf, co, ou)).1 = 0 ∨ rk (mu18 (pc, ac, lk, mq, ma, mb, ir, sw, io, dl, ha, rd, 18, md, kf, kb, cn, pf, co, ou)).1 < rk 18 := by
  exact Or.inl rfl
theorem rk_19_ {n : Nat} {pc ac lk mq ma mb ir sw io dl ha rd md kf kb cn pf : Int32} {co ou : Nat → Int32} (I : Iv n (pc, ac, lk, mq, ma, mb, ir, sw, io, dl, ha, rd, 19, md, kf, kb, cn, pf, co, ou)) : (mu19 (pc, ac, lk, mq, ma, mb, ir, sw, io, dl, ha, rd, 19, md, kf, kb, cn, pf, co, ou)).1 = 0 ∨ rk (mu19 (pc, ac, lk, mq, ma, mb, ir, sw, io, dl, ha, rd, 19, md, kf, kb, cn, pf, co, ou)).1 < rk 19 := by
  exact Or.inl rfl
theorem rk_20_ {n : Nat} {pc ac lk mq ma mb ir sw io dl ha rd md kf kb cn pf : Int32} {co ou : Nat → Int32} (I : Iv n (pc, ac, lk, mq, ma, mb, ir, sw, io, dl, ha, rd, 20, md, kf, kb, cn, pf, co, ou)) : (mu20 (pc, ac, lk, mq, ma, mb, ir, sw, io, dl, ha, rd, 20, md, kf, kb, cn, pf, co, ou)).1 = 0 ∨ rk (mu20 (pc, ac, lk, mq, ma, mb, ir, sw, io, dl, ha, rd, 20, md, kf, kb, cn, pf, co, ou)).1 < rk 20 := by
  show ((if ir &&& 256 = 0 then 21 else (if ir &&& 1 = 0 then 26 else 30)) : Int32) = 0 ∨ rk ((if ir &&& 256 = 0 then 21 else (if ir &&& 1 = 0 then 26 else 30))) < _
  repeat' split
  all_goals first | exact Or.inl rfl | exact Or.inr (by decide)
theorem rk_21_ {n : Nat} {pc ac lk mq ma mb ir sw io dl ha rd md kf kb cn pf : Int32} {co ou : Nat → Int32} (I : Iv n (pc, ac, lk, mq, ma, mb, ir, sw, io, dl, ha, rd, 21, md, kf, kb, cn, pf, co, ou)) : (mu21 (pc, ac, lk, mq, ma, mb, ir, sw, io, dl, ha, rd, 21, md, kf, kb, cn, pf, co, ou)).1 = 0 ∨ rk (mu21 (pc, ac, lk, mq, ma, mb, ir, sw, io, dl, ha, rd, 21, md, kf, kb, cn, pf, co, ou)).1 < rk 21 := by
  exact Or.inr (show rk 22 < rk 21 by decide)
theorem rk_22_ {n : Nat} {pc ac lk mq ma mb ir sw io dl ha rd md kf kb cn pf : Int32} {co ou : Nat → Int32} (I : Iv n (pc, ac, lk, mq, ma, mb, ir, sw, io, dl, ha, rd, 22, md, kf, kb, cn, pf, co, ou)) : (mu22 (pc, ac, lk, mq, ma, mb, ir, sw, io, dl, ha, rd, 22, md, kf, kb, cn, pf, co, ou)).1 = 0 ∨ rk (mu22 (pc, ac, lk, mq, ma, mb, ir, sw, io, dl, ha, rd, 22, md, kf, kb, cn, pf, co, ou)).1 < rk 22 := by
  exact Or.inr (show rk 23 < rk 22 by decide)
theorem rk_23_ {n : Nat} {pc ac lk mq ma mb ir sw io dl ha rd md kf kb cn pf : Int32} {co ou : Nat → Int32} (I : Iv n (pc, ac, lk, mq, ma, mb, ir, sw, io, dl, ha, rd, 23, md, kf, kb, cn, pf, co, ou)) : (mu23 (pc, ac, lk, mq, ma, mb, ir, sw, io, dl, ha, rd, 23, md, kf, kb, cn, pf, co, ou)).1 = 0 ∨ rk (mu23 (pc, ac, lk, mq, ma, mb, ir, sw, io, dl, ha, rd, 23, md, kf, kb, cn, pf, co, ou)).1 < rk 23 := by
  show ((if ir &&& 12 = 0 then 0 else 24) : Int32) = 0 ∨ rk ((if ir &&& 12 = 0 then 0 else 24)) < _
  repeat' split
  all_goals first | exact Or.inl rfl | exact Or.inr (by decide)
theorem rk_24_ {n : Nat} {pc ac lk mq ma mb ir sw io dl ha rd md kf kb cn pf : Int32} {co ou : Nat → Int32} (I : Iv n (pc, ac, lk, mq, ma, mb, ir, sw, io, dl, ha, rd, 24, md, kf, kb, cn, pf, co, ou)) : (mu24 (pc, ac, lk, mq, ma, mb, ir, sw, io, dl, ha, rd, 24, md, kf, kb, cn, pf, co, ou)).1 = 0 ∨ rk (mu24 (pc, ac, lk, mq, ma, mb, ir, sw, io, dl, ha, rd, 24, md, kf, kb, cn, pf, co, ou)).1 < rk 24 := by
  show ((if ir &&& 2 = 0 then 0 else 25) : Int32) = 0 ∨ rk ((if ir &&& 2 = 0 then 0 else 25)) < _
  repeat' split
  all_goals first | exact Or.inl rfl | exact Or.inr (by decide)
theorem rk_25_ {n : Nat} {pc ac lk mq ma mb ir sw io dl ha rd md kf kb cn pf : Int32} {co ou : Nat → Int32} (I : Iv n (pc, ac, lk, mq, ma, mb, ir, sw, io, dl, ha, rd, 25, md, kf, kb, cn, pf, co, ou)) : (mu25 (pc, ac, lk, mq, ma, mb, ir, sw, io, dl, ha, rd, 25, md, kf, kb, cn, pf, co, ou)).1 = 0 ∨ rk (mu25 (pc, ac, lk, mq, ma, mb, ir, sw, io, dl, ha, rd, 25, md, kf, kb, cn, pf, co, ou)).1 < rk 25 := by
  exact Or.inl rfl
theorem rk_26_ {n : Nat} {pc ac lk mq ma mb ir sw io dl ha rd md kf kb cn pf : Int32} {co ou : Nat → Int32} (I : Iv n (pc, ac, lk, mq, ma, mb, ir, sw, io, dl, ha, rd, 26, md, kf, kb, cn, pf, co, ou)) : (mu26 (pc, ac, lk, mq, ma, mb, ir, sw, io, dl, ha, rd, 26, md, kf, kb, cn, pf, co, ou)).1 = 0 ∨ rk (mu26 (pc, ac, lk, mq, ma, mb, ir, sw, io, dl, ha, rd, 26, md, kf, kb, cn, pf, co, ou)).1 < rk 26 := by
  exact Or.inr (show rk 27 < rk 26 by decide)
theorem rk_27_ {n : Nat} {pc ac lk mq ma mb ir sw io dl ha rd md kf kb cn pf : Int32} {co ou : Nat → Int32} (I : Iv n (pc, ac, lk, mq, ma, mb, ir, sw, io, dl, ha, rd, 27, md, kf, kb, cn, pf, co, ou)) : (mu27 (pc, ac, lk, mq, ma, mb, ir, sw, io, dl, ha, rd, 27, md, kf, kb, cn, pf, co, ou)).1 = 0 ∨ rk (mu27 (pc, ac, lk, mq, ma, mb, ir, sw, io, dl, ha, rd, 27, md, kf, kb, cn, pf, co, ou)).1 < rk 27 := by
  show ((if ir &&& 6 = 0 then 0 else 28) : Int32) = 0 ∨ rk ((if ir &&& 6 = 0 then 0 else 28)) < _
  repeat' split
  all_goals first | exact Or.inl rfl | exact Or.inr (by decide)
theorem rk_28_ {n : Nat} {pc ac lk mq ma mb ir sw io dl ha rd md kf kb cn pf : Int32} {co ou : Nat → Int32} (I : Iv n (pc, ac, lk, mq, ma, mb, ir, sw, io, dl, ha, rd, 28, md, kf, kb, cn, pf, co, ou)) : (mu28 (pc, ac, lk, mq, ma, mb, ir, sw, io, dl, ha, rd, 28, md, kf, kb, cn, pf, co, ou)).1 = 0 ∨ rk (mu28 (pc, ac, lk, mq, ma, mb, ir, sw, io, dl, ha, rd, 28, md, kf, kb, cn, pf, co, ou)).1 < rk 28 := by
  exact Or.inl rfl
theorem rk_30_ {n : Nat} {pc ac lk mq ma mb ir sw io dl ha rd md kf kb cn pf : Int32} {co ou : Nat → Int32} (I : Iv n (pc, ac, lk, mq, ma, mb, ir, sw, io, dl, ha, rd, 30, md, kf, kb, cn, pf, co, ou)) : (mu30 (pc, ac, lk, mq, ma, mb, ir, sw, io, dl, ha, rd, 30, md, kf, kb, cn, pf, co, ou)).1 = 0 ∨ rk (mu30 (pc, ac, lk, mq, ma, mb, ir, sw, io, dl, ha, rd, 30, md, kf, kb, cn, pf, co, ou)).1 < rk 30 := by
  exact Or.inr (show rk 31 < rk 30 by decide)
theorem rk_31_ {n : Nat} {pc ac lk mq ma mb ir sw io dl ha rd md kf kb cn pf : Int32} {co ou : Nat → Int32} (I : Iv n (pc, ac, lk, mq, ma, mb, ir, sw, io, dl, ha, rd, 31, md, kf, kb, cn, pf, co, ou)) : (mu31 (pc, ac, lk, mq, ma, mb, ir, sw, io, dl, ha, rd, 31, md, kf, kb, cn, pf, co, ou)).1 = 0 ∨ rk (mu31 (pc, ac, lk, mq, ma, mb, ir, sw, io, dl, ha, rd, 31, md, kf, kb, cn, pf, co, ou)).1 < rk 31 := by
  exact Or.inl rfl
theorem rk_32_ {n : Nat} {pc ac lk mq ma mb ir sw io dl ha rd md kf kb cn pf : Int32} {co ou : Nat → Int32} (I : Iv n (pc, ac, lk, mq, ma, mb, ir, sw, io, dl, ha, rd, 32, md, kf, kb, cn, pf, co, ou)) : (mu32 (pc, ac, lk, mq, ma, mb, ir, sw, io, dl, ha, rd, 32, md, kf, kb, cn, pf, co, ou)).1 = 0 ∨ rk (mu32 (pc, ac, lk, mq, ma, mb, ir, sw, io, dl, ha, rd, 32, md, kf, kb, cn, pf, co, ou)).1 < rk 32 := by
  show (if (ir / 8) &&& 63 = 0 then 33 else if (ir / 8) &&& 63 = 3 then 34 else if (ir / 8) &&& 63 = 4 then 36 else 0 : Int32) = 0 ∨ rk (if (ir / 8) &&& 63 = 0 then 33 else if (ir / 8) &&& 63 = 3 then 34 else if (ir / 8) &&& 63 = 4 then 36 else 0) < _
  repeat' split
  all_goals first | exact Or.inl rfl | exact Or.inr (by decide)
theorem rk_33_ {n : Nat} {pc ac lk mq ma mb ir sw io dl ha rd md kf kb cn pf : Int32} {co ou : Nat → Int32} (I : Iv n (pc, ac, lk, mq, ma, mb, ir, sw, io, dl, ha, rd, 33, md, kf, kb, cn, pf, co, ou)) : (mu33 (pc, ac, lk, mq, ma, mb, ir, sw, io, dl, ha, rd, 33, md, kf, kb, cn, pf, co, ou)).1 = 0 ∨ rk (mu33 (pc, ac, lk, mq, ma, mb, ir, sw, io, dl, ha, rd, 33, md, kf, kb, cn, pf, co, ou)).1 < rk 33 := by
  exact Or.inl rfl
theorem rk_34_ {n : Nat} {pc ac lk mq ma mb ir sw io dl ha rd md kf kb cn pf : Int32} {co ou : Nat → Int32} (I : Iv n (pc, ac, lk, mq, ma, mb, ir, sw, io, dl, ha, rd, 34, md, kf, kb, cn, pf, co, ou)) : (mu34 (pc, ac, lk, mq, ma, mb, ir, sw, io, dl, ha, rd, 34, md, kf, kb, cn, pf, co, ou)).1 = 0 ∨ rk (mu34 (pc, ac, lk, mq, ma, mb, ir, sw, io, dl, ha, rd, 34, md, kf, kb, cn, pf, co, ou)).1 < rk 34 := by
  show ((if ir &&& 4 = 0 then 0 else 35) : Int32) = 0 ∨ rk ((if ir &&& 4 = 0 then 0 else 35)) < _
  repeat' split
  all_goals first | exact Or.inl rfl | exact Or.inr (by decide)
theorem rk_35_ {n : Nat} {pc ac lk mq ma mb ir sw io dl ha rd md kf kb cn pf : Int32} {co ou : Nat → Int32} (I : Iv n (pc, ac, lk, mq, ma, mb, ir, sw, io, dl, ha, rd, 35, md, kf, kb, cn, pf, co, ou)) : (mu35 (pc, ac, lk, mq, ma, mb, ir, sw, io, dl, ha, rd, 35, md, kf, kb, cn, pf, co, ou)).1 = 0 ∨ rk (mu35 (pc, ac, lk, mq, ma, mb, ir, sw, io, dl, ha, rd, 35, md, kf, kb, cn, pf, co, ou)).1 < rk 35 := by
  exact Or.inl rfl
theorem rk_36_ {n : Nat} {pc ac lk mq ma mb ir sw io dl ha rd md kf kb cn pf : Int32} {co ou : Nat → Int32} (I : Iv n (pc, ac, lk, mq, ma, mb, ir, sw, io, dl, ha, rd, 36, md, kf, kb, cn, pf, co, ou)) : (mu36 (pc, ac, lk, mq, ma, mb, ir, sw, io, dl, ha, rd, 36, md, kf, kb, cn, pf, co, ou)).1 = 0 ∨ rk (mu36 (pc, ac, lk, mq, ma, mb, ir, sw, io, dl, ha, rd, 36, md, kf, kb, cn, pf, co, ou)).1 < rk 36 := by
  show ((if ir &&& 4 = 0 then 0 else 37) : Int32) = 0 ∨ rk ((if ir &&& 4 = 0 then 0 else 37)) < _
  repeat' split
  all_goals first | exact Or.inl rfl | exact Or.inr (by decide)
theorem rk_37_ {n : Nat} {pc ac lk mq ma mb ir sw io dl ha rd md kf kb cn pf : Int32} {co ou : Nat → Int32} (I : Iv n (pc, ac, lk, mq, ma, mb, ir, sw, io, dl, ha, rd, 37, md, kf, kb, cn, pf, co, ou)) : (mu37 (pc, ac, lk, mq, ma, mb, ir, sw, io, dl, ha, rd, 37, md, kf, kb, cn, pf, co, ou)).1 = 0 ∨ rk (mu37 (pc, ac, lk, mq, ma, mb, ir, sw, io, dl, ha, rd, 37, md, kf, kb, cn, pf, co, ou)).1 < rk 37 := by
  exact Or.inl rfl
theorem rk_40_ {n : Nat} {pc ac lk mq ma mb ir sw io dl ha rd md kf kb cn pf : Int32} {co ou : Nat → Int32} (I : Iv n (pc, ac, lk, mq, ma, mb, ir, sw, io, dl, ha, rd, 40, md, kf, kb, cn, pf, co, ou)) : (mu40 (pc, ac, lk, mq, ma, mb, ir, sw, io, dl, ha, rd, 40, md, kf, kb, cn, pf, co, ou)).1 = 0 ∨ rk (mu40 (pc, ac, lk, mq, ma, mb, ir, sw, io, dl, ha, rd, 40, md, kf, kb, cn, pf, co, ou)).1 < rk 40 := by
  exact Or.inr (show rk 41 < rk 40 by decide)
theorem rk_41_ {n : Nat} {pc ac lk mq ma mb ir sw io dl ha rd md kf kb cn pf : Int32} {co ou : Nat → Int32} (I : Iv n (pc, ac, lk, mq, ma, mb, ir, sw, io, dl, ha, rd, 41, md, kf, kb, cn, pf, co, ou)) : (mu41 (pc, ac, lk, mq, ma, mb, ir, sw, io, dl, ha, rd, 41, md, kf, kb, cn, pf, co, ou)).1 = 0 ∨ rk (mu41 (pc, ac, lk, mq, ma, mb, ir, sw, io, dl, ha, rd, 41, md, kf, kb, cn, pf, co, ou)).1 < rk 41 := by
  exact Or.inl rfl
theorem ms_0 {n : Nat} {pc ac lk mq ma mb ir sw io dl ha rd sn md kf kb cn pf : Int32} {co ou : Nat → Int32} (h : (ms n (pc, ac, lk, mq, ma, mb, ir, sw, io, dl, ha, rd, sn, md, kf, kb, cn, pf, co, ou)).1 = 0) : ¬ rd = 0 ∧ ¬ (sn = 0 ∧ ¬ ha = 0) ∧ ¬ (sn = 37 ∧ ¬ cn < nI n) := by
  refine ⟨fun q => ?_, fun q => ?_, fun q => ?_⟩
  · simp [ms, q] at h
  · by_cases z : rd = 0
    · simp [ms, z] at h
    · simp [ms, z, q] at h
  · by_cases z : rd = 0
    · simp [ms, z] at h
    · by_cases z2 : sn = 0 ∧ ¬ ha = 0
      · simp [ms, z, z2] at h
      · simp [ms, z, q] at h
set_option maxRecDepth 100000 in
theorem iv_ms {n : Nat} {u : St} (I : Iv n u) : Iv n (ms n u).2 := by
  obtain ⟨pc, ac, lk, mq, ma, mb, ir, sw, io, dl, ha, rd, sn, md, kf, kb, cn, pf, co, ou⟩ := u
  by_cases z1 : rd = 0
  · have e : (ms n (pc, ac, lk, mq, ma, mb, ir, sw, io, dl, ha, rd, sn, md, kf, kb, cn, pf, co, ou)).2 = (pc, ac, lk, mq, ma, mb, ir, sw, io, dl, ha, rd, sn, md, kf, kb, cn, pf, co, ou) := by
      show (if rd = 0 then _ else _ : Int32 × St).2 = _
      rw [if_pos z1]
    rw [e]; exact I
  by_cases z2 : sn = 0 ∧ ¬ ha = 0
  · have e : (ms n (pc, ac, lk, mq, ma, mb, ir, sw, io, dl, ha, rd, sn, md, kf, kb, cn, pf, co, ou)).2 = (pc, ac, lk, mq, ma, mb, ir, sw, io, dl, ha, rd, sn, md, kf, kb, cn, pf, co, ou) := by
      show (if rd = 0 then _ else if sn = 0 ∧ ¬ ha = 0 then _ else _ : Int32 × St).2 = _
      rw [if_neg z1, if_pos z2]
    rw [e]; exact I
  by_cases z3 : sn = 37 ∧ ¬ cn < nI n
  · have e : (ms n (pc, ac, lk, mq, ma, mb, ir, sw, io, dl, ha, rd, sn, md, kf, kb, cn, pf, co, ou)).2 = (pc, ac, lk, mq, ma, mb, ir, sw, io, dl, ha, rd, sn, md, kf, kb, cn, pf, co, ou) := by
      show (if rd = 0 then _ else if sn = 0 ∧ ¬ ha = 0 then _ else if sn = 37 ∧ ¬ cn < nI n then _ else _ : Int32 × St).2 = _
      rw [if_neg z1, if_neg z2, if_pos z3]
    rw [e]; exact I
  rw [ms_go z1 z2 z3]
  obtain ⟨-, -, -, hsn, -, -, hcn, hn, -⟩ := id I
  rcases hsn with rfl | rfl | rfl | rfl | rfl | rfl | rfl | rfl | rfl | rfl | rfl | rfl | rfl | rfl | rfl | rfl | rfl | rfl | rfl | rfl | rfl | rfl | rfl | rfl | rfl | rfl | rfl | rfl | rfl | rfl | rfl | rfl | rfl | rfl | rfl | rfl
  · exact iv_0 I
  · exact iv_1 I
  · exact iv_2 I
  · exact iv_3 I
  · exact iv_4 I
  · exact iv_5 I
  · exact iv_8 I
  · exact iv_9 I
  · exact iv_10 I
  · exact iv_11 I
  · exact iv_12 I
  · exact iv_13 I
  · exact iv_15 I
  · exact iv_16 I
  · exact iv_17 I
  · exact iv_18 I
  · exact iv_19 I
  · exact iv_20 I
  · exact iv_21 I
  · exact iv_22 I
  · exact iv_23 I
  · exact iv_24 I
  · exact iv_25 I
  · exact iv_26 I
  · exact iv_27 I
  · exact iv_28 I
  · exact iv_30 I
  · exact iv_31 I
  · exact iv_32 I
  · exact iv_33 I
  · exact iv_34 I
  · exact iv_35 I
  · exact iv_36 I
  · exact iv_37 I (Classical.not_not.mp (fun z => z3 ⟨rfl, z⟩))
  · exact iv_40 I
  · exact iv_41 I
theorem fi_0 {q : Int32 × St} (h : (fin_ q).1 = 0) : ¬ q.1 = 0 := by
  obtain ⟨r, pc, ac, lk, mq, ma, mb, ir, sw, io, dl, ha, rd, sn, md, kf, kb, cn, pf, co, ou⟩ := q
  intro z
  have e : r = 0 := z
  simp [fin_, e] at h
theorem fi_s (q : Int32 × St) : (fin_ q).2.2.2.2.2.2.2.2.2.2.2.2.2.1 = q.1 := rfl
set_option maxRecDepth 100000 in
theorem rk_ms {n : Nat} {u : St} (I : Iv n u) (h : (ms n u).1 = 0) : rk (ms n u).2.2.2.2.2.2.2.2.2.2.2.2.2.1 < rk u.2.2.2.2.2.2.2.2.2.2.2.2.1 := by
  obtain ⟨pc, ac, lk, mq, ma, mb, ir, sw, io, dl, ha, rd, sn, md, kf, kb, cn, pf, co, ou⟩ := u
  obtain ⟨z1, z2, z3⟩ := ms_0 h
  rw [ms_go z1 z2 z3] at h ⊢
  rw [fi_s]
  have h0 := fi_0 h
  obtain ⟨-, -, -, hsn, -, -, hcn, hn, -⟩ := id I
  rcases hsn with rfl | rfl | rfl | rfl | rfl | rfl | rfl | rfl | rfl | rfl | rfl | rfl | rfl | rfl | rfl | rfl | rfl | rfl | rfl | rfl | rfl | rfl | rfl | rfl | rfl | rfl | rfl | rfl | rfl | rfl | rfl | rfl | rfl | rfl | rfl | rfl
  · exact (rk_0_ I).resolve_left h0
  · exact (rk_1_ I).resolve_left h0
  · exact (rk_2_ I).resolve_left h0
  · exact (rk_3_ I).resolve_left h0
  · exact (rk_4_ I).resolve_left h0
  · exact (rk_5_ I).resolve_left h0
  · exact (rk_8_ I).resolve_left h0
  · exact (rk_9_ I).resolve_left h0
  · exact (rk_10_ I).resolve_left h0
  · exact (rk_11_ I).resolve_left h0
  · exact (rk_12_ I).resolve_left h0
  · exact (rk_13_ I).resolve_left h0
  · exact (rk_15_ I).resolve_left h0
  · exact (rk_16_ I).resolve_left h0
  · exact (rk_17_ I).resolve_left h0
  · exact (rk_18_ I).resolve_left h0
  · exact (rk_19_ I).resolve_left h0
  · exact (rk_20_ I).resolve_left h0
  · exact (rk_21_ I).resolve_left h0
  · exact (rk_22_ I).resolve_left h0
  · exact (rk_23_ I).resolve_left h0
  · exact (rk_24_ I).resolve_left h0
  · exact (rk_25_ I).resolve_left h0
  · exact (rk_26_ I).resolve_left h0
  · exact (rk_27_ I).resolve_left h0
  · exact (rk_28_ I).resolve_left h0
  · exact (rk_30_ I).resolve_left h0
  · exact (rk_31_ I).resolve_left h0
  · exact (rk_32_ I).resolve_left h0
  · exact (rk_33_ I).resolve_left h0
  · exact (rk_34_ I).resolve_left h0
  · exact (rk_35_ I).resolve_left h0
  · exact (rk_36_ I).resolve_left h0
  · exact (rk_37_ I).resolve_left h0
  · exact (rk_40_ I).resolve_left h0
  · exact (rk_41_ I).resolve_left h0
theorem rk_pos {n : Nat} {u : St} (I : Iv n u) : ¬ rk u.2.2.2.2.2.2.2.2.2.2.2.2.1 = 0 := by
  obtain ⟨pc, ac, lk, mq, ma, mb, ir, sw, io, dl, ha, rd, sn, md, kf, kb, cn, pf, co, ou⟩ := u
  obtain ⟨-, -, -, hsn, -, -, hcn, hn, -⟩ := id I
  rcases hsn with rfl | rfl | rfl | rfl | rfl | rfl | rfl | rfl | rfl | rfl | rfl | rfl | rfl | rfl | rfl | rfl | rfl | rfl | rfl | rfl | rfl | rfl | rfl | rfl | rfl | rfl | rfl | rfl | rfl | rfl | rfl | rfl | rfl | rfl | rfl | rfl
  · show ¬ rk 0 = 0
    decide
  · show ¬ rk 1 = 0
    decide
  · show ¬ rk 2 = 0
    decide
  · show ¬ rk 3 = 0
    decide
  · show ¬ rk 4 = 0
    decide
  · show ¬ rk 5 = 0
    decide
  · show ¬ rk 8 = 0
    decide
  · show ¬ rk 9 = 0
    decide
  · show ¬ rk 10 = 0
    decide
  · show ¬ rk 11 = 0
    decide
  · show ¬ rk 12 = 0
    decide
  · show ¬ rk 13 = 0
    decide
  · show ¬ rk 15 = 0
    decide
  · show ¬ rk 16 = 0
    decide
  · show ¬ rk 17 = 0
    decide
  · show ¬ rk 18 = 0
    decide
  · show ¬ rk 19 = 0
    decide
  · show ¬ rk 20 = 0
    decide
  · show ¬ rk 21 = 0
    decide
  · show ¬ rk 22 = 0
    decide
  · show ¬ rk 23 = 0
    decide
  · show ¬ rk 24 = 0
    decide
  · show ¬ rk 25 = 0
    decide
  · show ¬ rk 26 = 0
    decide
  · show ¬ rk 27 = 0
    decide
  · show ¬ rk 28 = 0
    decide
  · show ¬ rk 30 = 0
    decide
  · show ¬ rk 31 = 0
    decide
  · show ¬ rk 32 = 0
    decide
  · show ¬ rk 33 = 0
    decide
  · show ¬ rk 34 = 0
    decide
  · show ¬ rk 35 = 0
    decide
  · show ¬ rk 36 = 0
    decide
  · show ¬ rk 37 = 0
    decide
  · show ¬ rk 40 = 0
    decide
  · show ¬ rk 41 = 0
    decide
def sp (n : Nat) : Nat → Int32 × St → Int32 × St
  | 0, q => q
  | k + 1, q => if q.1 = 0 then sp n k (ms n q.2) else q
theorem sp_n {n : Nat} {q : Int32 × St} (h : ¬ q.1 = 0) : ∀ k, sp n k q = q
  | 0 => rfl
  | k + 1 => by rw [sp, if_neg h]
theorem rk_8 (x : Int32) : rk x ≤ 8 := by
  unfold rk
  exact if_p (P := fun z : Nat => z ≤ 8) (by decide) (if_p (P := fun z : Nat => z ≤ 8) (by decide) (if_p (P := fun z : Nat => z ≤ 8) (by decide) (if_p (P := fun z : Nat => z ≤ 8) (by decide) (if_p (P := fun z : Nat => z ≤ 8) (by decide) (if_p (P := fun z : Nat => z ≤ 8) (by decide) (if_p (P := fun z : Nat => z ≤ 8) (by decide) (if_p (P := fun z : Nat => z ≤ 8) (by decide) (if_p (P := fun z : Nat => z ≤ 8) (by decide) (if_p (P := fun z : Nat => z ≤ 8) (by decide) (if_p (P := fun z : Nat => z ≤ 8) (by decide) (if_p (P := fun z : Nat => z ≤ 8) (by decide) (if_p (P := fun z : Nat => z ≤ 8) (by decide) (if_p (P := fun z : Nat => z ≤ 8) (by decide) (if_p (P := fun z : Nat => z ≤ 8) (by decide) (if_p (P := fun z : Nat => z ≤ 8) (by decide) (if_p (P := fun z : Nat => z ≤ 8) (by decide) (if_p (P := fun z : Nat => z ≤ 8) (by decide) (if_p (P := fun z : Nat => z ≤ 8) (by decide) (if_p (P := fun z : Nat => z ≤ 8) (by decide) (if_p (P := fun z : Nat => z ≤ 8) (by decide) (if_p (P := fun z : Nat => z ≤ 8) (by decide) (if_p (P := fun z : Nat => z ≤ 8) (by decide) (if_p (P := fun z : Nat => z ≤ 8) (by decide) (if_p (P := fun z : Nat => z ≤ 8) (by decide) (if_p (P := fun z : Nat => z ≤ 8) (by decide) (if_p (P := fun z : Nat => z ≤ 8) (by decide) (if_p (P := fun z : Nat => z ≤ 8) (by decide) (if_p (P := fun z : Nat => z ≤ 8) (by decide) (if_p (P := fun z : Nat => z ≤ 8) (by decide) (if_p (P := fun z : Nat => z ≤ 8) (by decide) (if_p (P := fun z : Nat => z ≤ 8) (by decide) (if_p (P := fun z : Nat => z ≤ 8) (by decide) (if_p (P := fun z : Nat => z ≤ 8) (by decide) (if_p (P := fun z : Nat => z ≤ 8) (by decide) (if_p (P := fun z : Nat => z ≤ 8) (by decide) (by decide))))))))))))))))))))))))))))))))))))
theorem sp_eq {n : Nat} : ∀ (r : Nat) (u : St), Iv n u → rk u.2.2.2.2.2.2.2.2.2.2.2.2.1 ≤ r + 1 → ∀ k k' : Nat, r ≤ k → r ≤ k' → sp n k (ms n u) = sp n k' (ms n u)
  | r, u, I, hr, k, k', h1, h2 => by
    by_cases z : (ms n u).1 = 0
    · have hlt := rk_ms I z
      match r, k, k', h1, h2, hr with
      | 0, k, k', h1, h2, hr =>
        exfalso
        have : rk (ms n u).2.2.2.2.2.2.2.2.2.2.2.2.2.1 = 0 := by omega
        exact rk_pos (iv_ms I) this
      | r + 1, k + 1, k' + 1, h1, h2, hr =>
        rw [sp, sp, if_pos z, if_pos z]
        exact sp_eq r _ (iv_ms I) (by omega) k k' (by omega) (by omega)
    · rw [sp_n z, sp_n z]

theorem an_255 (x : Int32) : (x &&& 255) &&& 255 = x &&& 255 := by
  rw [Int32.and_assoc]
  rfl
theorem iv_init {n : Nat} {pc ac lk mq ma mb ir sw io dl ha rd sn md kf kb cn pf : Int32} {co ou : Nat → Int32} (I : Iv n (pc, ac, lk, mq, ma, mb, ir, sw, io, dl, ha, rd, sn, md, kf, kb, cn, pf, co, ou)) : Iv n (0, 0, 0, 0, 0, 0, 0, sw, 0, 0, 0, 1, 0, 0, 0, 0, 0, 0, co, ou) := by
  obtain ⟨⟨hpc, hac, hmq, hma, hmb, hir, hsw⟩, hlk, ⟨hio, hdl, hha, hrd, hkf, hpf⟩, hsn, hlt, hkb, hcn, hn, hco⟩ := I
  exact Iv_mk ⟨⟨wo_0, wo_0, wo_0, wo_0, wo_0, wo_0, hsw⟩, (Or.inl rfl), ⟨(Or.inl rfl), (Or.inl rfl), (Or.inl rfl), (Or.inr rfl), (Or.inl rfl), (Or.inl rfl)⟩, Or.inl rfl, (fun q => by rcases q with q | q | q | q <;> exact absurd q (by decide)), (by decide), ⟨0, Nat.zero_le _, rfl⟩, hn, hco⟩
theorem iv_dep {n : Nat} {pc ac lk mq ma mb ir sw io dl ha rd sn md kf kb cn pf : Int32} {co ou : Nat → Int32} (I : Iv n (pc, ac, lk, mq, ma, mb, ir, sw, io, dl, ha, rd, sn, md, kf, kb, cn, pf, co, ou)) (x v : Int32) : Iv n (pc, ac, lk, mq, ma, mb, ir, sw, io, dl, ha, rd, sn, md, kf, kb, cn, pf, (upd co (x &&& 4095).toNatClampNeg (v &&& 4095)), ou) := by
  obtain ⟨⟨hpc, hac, hmq, hma, hmb, hir, hsw⟩, hlk, ⟨hio, hdl, hha, hrd, hkf, hpf⟩, hsn, hlt, hkb, hcn, hn, hco⟩ := I
  exact Iv_mk ⟨⟨hpc, hac, hmq, hma, hmb, hir, hsw⟩, hlk, ⟨hio, hdl, hha, hrd, hkf, hpf⟩, hsn, hlt, hkb, hcn, hn, (wo_up hco _ (an_an _))⟩
theorem iv_start {n : Nat} {pc ac lk mq ma mb ir sw io dl ha rd sn md kf kb cn pf : Int32} {co ou : Nat → Int32} (I : Iv n (pc, ac, lk, mq, ma, mb, ir, sw, io, dl, ha, rd, sn, md, kf, kb, cn, pf, co, ou)) (x : Int32) : Iv n ((x &&& 4095), ac, lk, mq, ma, mb, ir, sw, io, dl, 0, rd, sn, md, kf, kb, cn, pf, co, ou) := by
  obtain ⟨⟨hpc, hac, hmq, hma, hmb, hir, hsw⟩, hlk, ⟨hio, hdl, hha, hrd, hkf, hpf⟩, hsn, hlt, hkb, hcn, hn, hco⟩ := I
  exact Iv_mk ⟨⟨(an_an _), hac, hmq, hma, hmb, hir, hsw⟩, hlk, ⟨hio, hdl, (Or.inl rfl), hrd, hkf, hpf⟩, hsn, hlt, hkb, hcn, hn, hco⟩
theorem iv_sw {n : Nat} {pc ac lk mq ma mb ir sw io dl ha rd sn md kf kb cn pf : Int32} {co ou : Nat → Int32} (I : Iv n (pc, ac, lk, mq, ma, mb, ir, sw, io, dl, ha, rd, sn, md, kf, kb, cn, pf, co, ou)) (x : Int32) : Iv n (pc, ac, lk, mq, ma, mb, ir, (x &&& 4095), io, dl, ha, rd, sn, md, kf, kb, cn, pf, co, ou) := by
  obtain ⟨⟨hpc, hac, hmq, hma, hmb, hir, hsw⟩, hlk, ⟨hio, hdl, hha, hrd, hkf, hpf⟩, hsn, hlt, hkb, hcn, hn, hco⟩ := I
  exact Iv_mk ⟨⟨hpc, hac, hmq, hma, hmb, hir, (an_an _)⟩, hlk, ⟨hio, hdl, hha, hrd, hkf, hpf⟩, hsn, hlt, hkb, hcn, hn, hco⟩
theorem iv_key {n : Nat} {pc ac lk mq ma mb ir sw io dl ha rd sn md kf kb cn pf : Int32} {co ou : Nat → Int32} (I : Iv n (pc, ac, lk, mq, ma, mb, ir, sw, io, dl, ha, rd, sn, md, kf, kb, cn, pf, co, ou)) (x : Int32) : Iv n (pc, ac, lk, mq, ma, mb, ir, sw, io, dl, ha, rd, sn, md, 1, (x &&& 255), cn, pf, co, ou) := by
  obtain ⟨⟨hpc, hac, hmq, hma, hmb, hir, hsw⟩, hlk, ⟨hio, hdl, hha, hrd, hkf, hpf⟩, hsn, hlt, hkb, hcn, hn, hco⟩ := I
  exact Iv_mk ⟨⟨hpc, hac, hmq, hma, hmb, hir, hsw⟩, hlk, ⟨hio, hdl, hha, hrd, (Or.inr rfl), hpf⟩, hsn, hlt, (an_255 _), hcn, hn, hco⟩
theorem iv_load_1 {n : Nat} {pc ac lk mq ma mb ir sw io dl ha rd sn md kf kb cn pf : Int32} {co ou : Nat → Int32} (I : Iv n (pc, ac, lk, mq, ma, mb, ir, sw, io, dl, ha, rd, sn, md, kf, kb, cn, pf, co, ou)) (x : Int32) (w : Int64) : Iv n (pc, ac, lk, mq, ma, mb, ir, sw, io, dl, ha, rd, sn, md, kf, kb, cn, pf, (upd co ((x + 0) &&& 4095).toNatClampNeg ((w.toUInt64 >>> ((12 * ((1 - 1) - 0)).toInt64.toUInt64 &&& Int64.toUInt64 63)).toInt64.toInt32 &&& 4095)), ou) := by
  obtain ⟨⟨hpc, hac, hmq, hma, hmb, hir, hsw⟩, hlk, ⟨hio, hdl, hha, hrd, hkf, hpf⟩, hsn, hlt, hkb, hcn, hn, hco⟩ := I
  exact Iv_mk ⟨⟨hpc, hac, hmq, hma, hmb, hir, hsw⟩, hlk, ⟨hio, hdl, hha, hrd, hkf, hpf⟩, hsn, hlt, hkb, hcn, hn, (wo_up hco _ (an_an _))⟩
theorem iv_load_2 {n : Nat} {pc ac lk mq ma mb ir sw io dl ha rd sn md kf kb cn pf : Int32} {co ou : Nat → Int32} (I : Iv n (pc, ac, lk, mq, ma, mb, ir, sw, io, dl, ha, rd, sn, md, kf, kb, cn, pf, co, ou)) (x : Int32) (w : Int64) : Iv n (pc, ac, lk, mq, ma, mb, ir, sw, io, dl, ha, rd, sn, md, kf, kb, cn, pf, (upd (upd co ((x + 0) &&& 4095).toNatClampNeg ((w.toUInt64 >>> ((12 * ((2 - 1) - 0)).toInt64.toUInt64 &&& Int64.toUInt64 63)).toInt64.toInt32 &&& 4095)) ((x + 1) &&& 4095).toNatClampNeg ((w.toUInt64 >>> ((12 * ((2 - 1) - 1)).toInt64.toUInt64 &&& Int64.toUInt64 63)).toInt64.toInt32 &&& 4095)), ou) := by
  obtain ⟨⟨hpc, hac, hmq, hma, hmb, hir, hsw⟩, hlk, ⟨hio, hdl, hha, hrd, hkf, hpf⟩, hsn, hlt, hkb, hcn, hn, hco⟩ := I
  exact Iv_mk ⟨⟨hpc, hac, hmq, hma, hmb, hir, hsw⟩, hlk, ⟨hio, hdl, hha, hrd, hkf, hpf⟩, hsn, hlt, hkb, hcn, hn, (wo_up (wo_up hco _ (an_an _)) _ (an_an _))⟩
theorem iv_load_3 {n : Nat} {pc ac lk mq ma mb ir sw io dl ha rd sn md kf kb cn pf : Int32} {co ou : Nat → Int32} (I : Iv n (pc, ac, lk, mq, ma, mb, ir, sw, io, dl, ha, rd, sn, md, kf, kb, cn, pf, co, ou)) (x : Int32) (w : Int64) : Iv n (pc, ac, lk, mq, ma, mb, ir, sw, io, dl, ha, rd, sn, md, kf, kb, cn, pf, (upd (upd (upd co ((x + 0) &&& 4095).toNatClampNeg ((w.toUInt64 >>> ((12 * ((3 - 1) - 0)).toInt64.toUInt64 &&& Int64.toUInt64 63)).toInt64.toInt32 &&& 4095)) ((x + 1) &&& 4095).toNatClampNeg ((w.toUInt64 >>> ((12 * ((3 - 1) - 1)).toInt64.toUInt64 &&& Int64.toUInt64 63)).toInt64.toInt32 &&& 4095)) ((x + 2) &&& 4095).toNatClampNeg ((w.toUInt64 >>> ((12 * ((3 - 1) - 2)).toInt64.toUInt64 &&& Int64.toUInt64 63)).toInt64.toInt32 &&& 4095)), ou) := by
  obtain ⟨⟨hpc, hac, hmq, hma, hmb, hir, hsw⟩, hlk, ⟨hio, hdl, hha, hrd, hkf, hpf⟩, hsn, hlt, hkb, hcn, hn, hco⟩ := I
  exact Iv_mk ⟨⟨hpc, hac, hmq, hma, hmb, hir, hsw⟩, hlk, ⟨hio, hdl, hha, hrd, hkf, hpf⟩, hsn, hlt, hkb, hcn, hn, (wo_up (wo_up (wo_up hco _ (an_an _)) _ (an_an _)) _ (an_an _))⟩
theorem iv_load_4 {n : Nat} {pc ac lk mq ma mb ir sw io dl ha rd sn md kf kb cn pf : Int32} {co ou : Nat → Int32} (I : Iv n (pc, ac, lk, mq, ma, mb, ir, sw, io, dl, ha, rd, sn, md, kf, kb, cn, pf, co, ou)) (x : Int32) (w : Int64) : Iv n (pc, ac, lk, mq, ma, mb, ir, sw, io, dl, ha, rd, sn, md, kf, kb, cn, pf, (upd (upd (upd (upd co ((x + 0) &&& 4095).toNatClampNeg ((w.toUInt64 >>> ((12 * ((4 - 1) - 0)).toInt64.toUInt64 &&& Int64.toUInt64 63)).toInt64.toInt32 &&& 4095)) ((x + 1) &&& 4095).toNatClampNeg ((w.toUInt64 >>> ((12 * ((4 - 1) - 1)).toInt64.toUInt64 &&& Int64.toUInt64 63)).toInt64.toInt32 &&& 4095)) ((x + 2) &&& 4095).toNatClampNeg ((w.toUInt64 >>> ((12 * ((4 - 1) - 2)).toInt64.toUInt64 &&& Int64.toUInt64 63)).toInt64.toInt32 &&& 4095)) ((x + 3) &&& 4095).toNatClampNeg ((w.toUInt64 >>> ((12 * ((4 - 1) - 3)).toInt64.toUInt64 &&& Int64.toUInt64 63)).toInt64.toInt32 &&& 4095)), ou) := by
  obtain ⟨⟨hpc, hac, hmq, hma, hmb, hir, hsw⟩, hlk, ⟨hio, hdl, hha, hrd, hkf, hpf⟩, hsn, hlt, hkb, hcn, hn, hco⟩ := I
  exact Iv_mk ⟨⟨hpc, hac, hmq, hma, hmb, hir, hsw⟩, hlk, ⟨hio, hdl, hha, hrd, hkf, hpf⟩, hsn, hlt, hkb, hcn, hn, (wo_up (wo_up (wo_up (wo_up hco _ (an_an _)) _ (an_an _)) _ (an_an _)) _ (an_an _))⟩
theorem iv_load_5 {n : Nat} {pc ac lk mq ma mb ir sw io dl ha rd sn md kf kb cn pf : Int32} {co ou : Nat → Int32} (I : Iv n (pc, ac, lk, mq, ma, mb, ir, sw, io, dl, ha, rd, sn, md, kf, kb, cn, pf, co, ou)) (x : Int32) (w : Int64) : Iv n (pc, ac, lk, mq, ma, mb, ir, sw, io, dl, ha, rd, sn, md, kf, kb, cn, pf, (upd (upd (upd (upd (upd co ((x + 0) &&& 4095).toNatClampNeg ((w.toUInt64 >>> ((12 * ((5 - 1) - 0)).toInt64.toUInt64 &&& Int64.toUInt64 63)).toInt64.toInt32 &&& 4095)) ((x + 1) &&& 4095).toNatClampNeg ((w.toUInt64 >>> ((12 * ((5 - 1) - 1)).toInt64.toUInt64 &&& Int64.toUInt64 63)).toInt64.toInt32 &&& 4095)) ((x + 2) &&& 4095).toNatClampNeg ((w.toUInt64 >>> ((12 * ((5 - 1) - 2)).toInt64.toUInt64 &&& Int64.toUInt64 63)).toInt64.toInt32 &&& 4095)) ((x + 3) &&& 4095).toNatClampNeg ((w.toUInt64 >>> ((12 * ((5 - 1) - 3)).toInt64.toUInt64 &&& Int64.toUInt64 63)).toInt64.toInt32 &&& 4095)) ((x + 4) &&& 4095).toNatClampNeg ((w.toUInt64 >>> ((12 * ((5 - 1) - 4)).toInt64.toUInt64 &&& Int64.toUInt64 63)).toInt64.toInt32 &&& 4095)), ou) := by
  obtain ⟨⟨hpc, hac, hmq, hma, hmb, hir, hsw⟩, hlk, ⟨hio, hdl, hha, hrd, hkf, hpf⟩, hsn, hlt, hkb, hcn, hn, hco⟩ := I
  exact Iv_mk ⟨⟨hpc, hac, hmq, hma, hmb, hir, hsw⟩, hlk, ⟨hio, hdl, hha, hrd, hkf, hpf⟩, hsn, hlt, hkb, hcn, hn, (wo_up (wo_up (wo_up (wo_up (wo_up hco _ (an_an _)) _ (an_an _)) _ (an_an _)) _ (an_an _)) _ (an_an _))⟩
