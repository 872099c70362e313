theorem wo_j {x : Int32} (h : x &&& 4095 = x) : ∃ j : Nat, j < 4096 ∧ x = nI j := by
  obtain ⟨j, hj, e⟩ := pk_andE x (m := 4095) 12 (by decide +kernel)
  exact ⟨j, hj, h.symm.trans e⟩
theorem j_wo {j : Nat} (h : j < 4096) : nI j &&& 4095 = nI j := by
  rw [pk_andN (m := 4095) (by omega) 12 (by decide +kernel), Nat.mod_eq_of_lt h]
theorem wo_or {x y : Int32} (hx : x &&& 4095 = x) (hy : y &&& 4095 = y) : (x ||| y) &&& 4095 = x ||| y := by
  apply Int32.toBitVec_inj.mp
  have h1 : x.toBitVec &&& (4095 : Int32).toBitVec = x.toBitVec := by rw [← Int32.toBitVec_and, hx]
  have h2 : y.toBitVec &&& (4095 : Int32).toBitVec = y.toBitVec := by rw [← Int32.toBitVec_and, hy]
  rw [Int32.toBitVec_and, Int32.toBitVec_or]
  generalize (4095 : Int32).toBitVec = M at h1 h2 ⊢
  generalize x.toBitVec = a at h1 ⊢
  generalize y.toBitVec = b at h2 ⊢
  apply BitVec.eq_of_getLsbD_eq
  intro i hi
  have e1 := congrArg (fun z => z.getLsbD i) h1
  have e2 := congrArg (fun z => z.getLsbD i) h2
  simp only [BitVec.getLsbD_and, BitVec.getLsbD_or] at e1 e2 ⊢
  revert e1 e2
  cases a.getLsbD i <;> cases b.getLsbD i <;> cases M.getLsbD i <;> simp
theorem wo_and {x y : Int32} (hx : x &&& 4095 = x) : (x &&& y) &&& 4095 = x &&& y := by
  rw [Int32.and_comm x y, Int32.and_assoc, hx]
theorem wo_sub {x : Int32} (hx : x &&& 4095 = x) : (4095 - x) &&& 4095 = 4095 - x := by
  obtain ⟨j, hj, rfl⟩ := wo_j hx
  have e : (4095 : Int32) = nI 4095 := by decide +kernel
  rw [e, pk_sub (by omega)]
  exact e ▸ j_wo (by omega)
theorem wo_t_ : ∀ a : Nat, a < 32 → ∀ b : Nat, b < 128 → (nI (128 * a + b) &&& 3968) = nI (128 * ((128 * a + b) / 128)) := by decide +kernel
theorem wo_t : ∀ g : Nat, g < 4096 → (nI g &&& 3968) = nI (128 * (g / 128)) := fun g hg => by
  have h := wo_t_ (g / 128) (by omega) (g % 128) (by omega)
  rw [show 128 * (g / 128) + g % 128 = g from Nat.div_add_mod g 128] at h
  exact h
theorem wo_pg {a b : Int32} (ha : a &&& 4095 = a) : ((a &&& 3968) + (b &&& 127)) &&& 4095 = (a &&& 3968) + (b &&& 127) := by
  obtain ⟨j, hj, rfl⟩ := wo_j ha
  obtain ⟨k, hk, e⟩ := pk_andE b (m := 127) 7 (by decide +kernel)
  have hk : k < 128 := hk
  rw [wo_t j hj, e, nI_add]
  exact j_wo (by omega)
theorem wo_127 (b : Int32) : (0 + (b &&& 127)) &&& 4095 = 0 + (b &&& 127) := by
  rw [Int32.zero_add, Int32.and_assoc]
  rfl
theorem wo_kb {x : Int32} (h : x &&& 255 = x) : x &&& 4095 = x := by
  rw [← h, Int32.and_assoc]
  rfl
theorem wo_0 : (0 : Int32) &&& 4095 = 0 := by decide
theorem wo_up {co : Nat → Int32} (h : ∀ i, co i &&& 4095 = co i) (j : Nat) {v : Int32} (hv : v &&& 4095 = v) : ∀ i, upd co j v i &&& 4095 = upd co j v i := by
  intro i
  by_cases e : i = j
  · subst e; rw [pk_us]; exact hv
  · rw [pk_un e]; exact h i
theorem lk_t {lk : Int32} (h : lk = 0 ∨ lk = 1) : 1 - lk = 0 ∨ 1 - lk = 1 := by
  rcases h with rfl | rfl
  · exact Or.inr (by decide)
  · exact Or.inl (by decide)
theorem if_p {c : Prop} {α : Type} [Decidable c] {a b : α} {P : α → Prop} (ha : P a) (hb : P b) : P (if c then a else b) := by
  split
  · exact ha
  · exact hb
theorem ro_1_ : ∀ a : Nat, a < 64 → ∀ b : Nat, b < 128 → ((nI (128 * a + b) >>> ((1 : Int32) &&& 31)) ||| ((nI (128 * a + b) &&& 1) <<< ((12 : Int32) &&& 31))) = nI ((128 * a + b) / 2 + (128 * a + b) % 2 * 4096) := by decide +kernel
theorem ro_1 : ∀ g : Nat, g < 8192 → ((nI g >>> ((1 : Int32) &&& 31)) ||| ((nI g &&& 1) <<< ((12 : Int32) &&& 31))) = nI (g / 2 + g % 2 * 4096) := fun g hg => by
  have h := ro_1_ (g / 128) (by omega) (g % 128) (by omega)
  rw [show 128 * (g / 128) + g % 128 = g from Nat.div_add_mod g 128] at h
  exact h
theorem ro_2_ : ∀ a : Nat, a < 64 → ∀ b : Nat, b < 128 → (((nI (128 * a + b) <<< ((1 : Int32) &&& 31)) ||| (nI (128 * a + b) >>> ((12 : Int32) &&& 31))) &&& 8191) = nI ((2 * (128 * a + b)) % 8192 + (128 * a + b) / 4096) := by decide +kernel
theorem ro_2 : ∀ g : Nat, g < 8192 → (((nI g <<< ((1 : Int32) &&& 31)) ||| (nI g >>> ((12 : Int32) &&& 31))) &&& 8191) = nI ((2 * g) % 8192 + g / 4096) := fun g hg => by
  have h := ro_2_ (g / 128) (by omega) (g % 128) (by omega)
  rw [show 128 * (g / 128) + g % 128 = g from Nat.div_add_mod g 128] at h
  exact h
theorem ro_3_ : ∀ a : Nat, a < 64 → ∀ b : Nat, b < 128 → (((nI (128 * a + b) <<< ((1 : Int32) &&& 31)) &&& 8191) ||| (nI (128 * a + b) >>> ((12 : Int32) &&& 31))) = nI ((2 * (128 * a + b)) % 8192 + (128 * a + b) / 4096) := by decide +kernel
theorem ro_3 : ∀ g : Nat, g < 8192 → (((nI g <<< ((1 : Int32) &&& 31)) &&& 8191) ||| (nI g >>> ((12 : Int32) &&& 31))) = nI ((2 * g) % 8192 + g / 4096) := fun g hg => by
  have h := ro_3_ (g / 128) (by omega) (g % 128) (by omega)
  rw [show 128 * (g / 128) + g % 128 = g from Nat.div_add_mod g 128] at h
  exact h
theorem ro_4_ : ∀ a : Nat, a < 64 → ∀ b : Nat, b < 128 → nI (128 * a + b) >>> ((12 : Int32) &&& 31) = nI ((128 * a + b) / 4096) := by decide +kernel
theorem ro_4 : ∀ g : Nat, g < 8192 → nI g >>> ((12 : Int32) &&& 31) = nI (g / 4096) := fun g hg => by
  have h := ro_4_ (g / 128) (by omega) (g % 128) (by omega)
  rw [show 128 * (g / 128) + g % 128 = g from Nat.div_add_mod g 128] at h
  exact h
theorem ro_0_ : ∀ a : Nat, a < 32 → ∀ b : Nat, b < 128 → (((0 : Int32) <<< ((12 : Int32) &&& 31)) ||| nI (128 * a + b)) = nI (128 * a + b) ∧ (((1 : Int32) <<< ((12 : Int32) &&& 31)) ||| nI (128 * a + b)) = nI (4096 + (128 * a + b)) := by decide +kernel
theorem ro_0 : ∀ g : Nat, g < 4096 → (((0 : Int32) <<< ((12 : Int32) &&& 31)) ||| nI g) = nI g ∧ (((1 : Int32) <<< ((12 : Int32) &&& 31)) ||| nI g) = nI (4096 + g) := fun g hg => by
  have h := ro_0_ (g / 128) (by omega) (g % 128) (by omega)
  rw [show 128 * (g / 128) + g % 128 = g from Nat.div_add_mod g 128] at h
  exact h
theorem rg_g {lk ac : Int32} (hl : lk = 0 ∨ lk = 1) (ha : ac &&& 4095 = ac) : ∃ g : Nat, g < 8192 ∧ ((lk <<< ((12 : Int32) &&& 31)) ||| ac) = nI g := by
  obtain ⟨j, hj, rfl⟩ := wo_j ha
  rcases hl with rfl | rfl
  · exact ⟨j, by omega, (ro_0 j hj).1⟩
  · exact ⟨4096 + j, by omega, (ro_0 j hj).2⟩
theorem r1_g {ir v : Int32} (h : ∃ g : Nat, g < 8192 ∧ v = nI g) : ∃ g : Nat, g < 8192 ∧ r1_ ir v = nI g := by
  obtain ⟨g, hg, rfl⟩ := h
  unfold r1_
  split
  · exact ⟨g, hg, rfl⟩
  · exact ⟨_, by omega, ro_1 g hg⟩
theorem r2_g {ir v : Int32} (h : ∃ g : Nat, g < 8192 ∧ v = nI g) : ∃ g : Nat, g < 8192 ∧ r2_ ir v = nI g := by
  obtain ⟨g, hg, rfl⟩ := h
  unfold r2_
  split
  · exact ⟨g, hg, rfl⟩
  · exact ⟨_, by omega, ro_2 g hg⟩
theorem ro_e {v : Int32} (h : ∃ g : Nat, g < 8192 ∧ v = nI g) : (((v <<< ((1 : Int32) &&& 31)) &&& 8191) ||| (v >>> ((12 : Int32) &&& 31))) = (((v <<< ((1 : Int32) &&& 31)) ||| (v >>> ((12 : Int32) &&& 31))) &&& 8191) := by
  obtain ⟨g, hg, rfl⟩ := h
  rw [ro_2 g hg, ro_3 g hg]
theorem ro_r {v : Int32} (h : ∃ g : Nat, g < 8192 ∧ v = nI g) : ∃ g : Nat, g < 8192 ∧ ((v >>> ((1 : Int32) &&& 31)) ||| ((v &&& 1) <<< ((12 : Int32) &&& 31))) = nI g := by
  obtain ⟨g, hg, rfl⟩ := h
  exact ⟨_, by omega, ro_1 g hg⟩
theorem rg_lt {lk ac : Int32} (ir : Int32) (hl : lk = 0 ∨ lk = 1) (ha : ac &&& 4095 = ac) : ∃ g : Nat, g < 8192 ∧ rg_ lk ac ir = nI g := r2_g (r1_g (rg_g hl ha))
theorem rg_lk {lk ac : Int32} (ir : Int32) (hl : lk = 0 ∨ lk = 1) (ha : ac &&& 4095 = ac) : rg_ lk ac ir >>> ((12 : Int32) &&& 31) = 0 ∨ rg_ lk ac ir >>> ((12 : Int32) &&& 31) = 1 := by
  obtain ⟨g, hg, e⟩ := rg_lt ir hl ha
  rw [e, ro_4 g hg]
  have : g / 4096 = 0 ∨ g / 4096 = 1 := by omega
  rcases this with h | h <;> rw [h]
  · exact Or.inl rfl
  · exact Or.inr rfl
theorem di_j_ : ∀ a : Nat, a < 24 → ∀ b : Nat, b < 128 → (8 + nI (128 * a + b) / 512 : Int32) = nI (8 + (128 * a + b) / 512) := by decide +kernel
theorem di_j : ∀ g : Nat, g < 3072 → (8 + nI g / 512 : Int32) = nI (8 + g / 512) := fun g hg => by
  have h := di_j_ (g / 128) (by omega) (g % 128) (by omega)
  rw [show 128 * (g / 128) + g % 128 = g from Nat.div_add_mod g 128] at h
  exact h
theorem di_8 {ir : Int32} (h : ir &&& 4095 = ir) (hl : ir < 3072) : ∃ k : Nat, (k = 8 ∨ k = 9 ∨ k = 10 ∨ k = 11 ∨ k = 12 ∨ k = 13) ∧ 8 + ir / 512 = nI k := by
  obtain ⟨j, hj, rfl⟩ := wo_j h
  have e : (3072 : Int32) = nI 3072 := by decide +kernel
  have hl : j < 3072 := by
    rw [e] at hl
    exact (nI_ltI (by omega) (by omega)).mp hl
  exact ⟨8 + j / 512, by omega, di_j j hl⟩
theorem cn_up {cn : Int32} {n : Nat} (hn : n ≤ 100) (h : ∃ k : Nat, k ≤ n ∧ cn = nI k) (hl : cn < nI n) : ∃ k : Nat, k ≤ n ∧ cn + 1 = nI k := by
  obtain ⟨k, hk, rfl⟩ := h
  have := (nI_ltI (by omega) (by omega)).mp hl
  exact ⟨k + 1, by omega, nI_1 k⟩

set_option maxRecDepth 100000 in
theorem iv_0 {n : Nat} {pc ac lk mq ma mb ir sw io dl ha rd md kf kb cn pf : Int32} {co ou : Nat → Int32} (I : Iv n (pc, ac, lk, mq, ma, mb, ir, sw, io, dl, ha, rd, 0, md, kf, kb, cn, pf, co, ou)) : Iv n (fin_ (mu0 (pc, ac, lk, mq, ma, mb, ir, sw, io, dl, ha, rd, 0, md, kf, kb, cn, pf, co, ou))).2 := by
  obtain ⟨⟨hpc, hac, hmq, hma, hmb, hir, hsw⟩, hlk, ⟨hio, hdl, hha, hrd, hkf, hpf⟩, hsn, hlt, hkb, hcn, hn, hco⟩ := I
  show Iv n (fin_ (if io = 0 ∨ ¬ dl = 0 ∨ (kf = 0 ∧ pf = 0) then _ else _)).2
  split
  · show Iv n (((pc + 1) &&& 4095), ac, lk, mq, pc, mb, ir, sw, io, 0, ha, rd, 1, (md + 1), kf, kb, cn, pf, co, ou)
    exact Iv_mk ⟨⟨(an_an _), hac, hmq, hpc, hmb, hir, hsw⟩, hlk, ⟨hio, (Or.inl rfl), hha, hrd, hkf, hpf⟩, Or.inr (Or.inl rfl), (fun q => by rcases q with q | q | q | q <;> exact absurd q (by decide)), hkb, hcn, hn, hco⟩
  · show Iv n (pc, ac, lk, mq, ma, mb, ir, sw, io, dl, ha, rd, 40, (md + 1), kf, kb, cn, pf, co, ou)
    exact Iv_mk ⟨⟨hpc, hac, hmq, hma, hmb, hir, hsw⟩, hlk, ⟨hio, hdl, hha, hrd, hkf, hpf⟩, Or.inr (Or.inr (Or.inr (Or.inr (Or.inr (Or.inr (Or.inr (Or.inr (Or.inr (Or.inr (Or.inr (Or.inr (Or.inr (Or.inr (Or.inr (Or.inr (Or.inr (Or.inr (Or.inr (Or.inr (Or.inr (Or.inr (Or.inr (Or.inr (Or.inr (Or.inr (Or.inr (Or.inr (Or.inr (Or.inr (Or.inr (Or.inr (Or.inr (Or.inr (Or.inl rfl)))))))))))))))))))))))))))))))))), (fun q => by rcases q with q | q | q | q <;> exact absurd q (by decide)), hkb, hcn, hn, hco⟩
set_option maxRecDepth 100000 in
theorem iv_1 {n : Nat} {pc ac lk mq ma mb ir sw io dl ha rd md kf kb cn pf : Int32} {co ou : Nat → Int32} (I : Iv n (pc, ac, lk, mq, ma, mb, ir, sw, io, dl, ha, rd, 1, md, kf, kb, cn, pf, co, ou)) : Iv n (fin_ (mu1 (pc, ac, lk, mq, ma, mb, ir, sw, io, dl, ha, rd, 1, md, kf, kb, cn, pf, co, ou))).2 := by
  obtain ⟨⟨hpc, hac, hmq, hma, hmb, hir, hsw⟩, hlk, ⟨hio, hdl, hha, hrd, hkf, hpf⟩, hsn, hlt, hkb, hcn, hn, hco⟩ := I
  show Iv n (pc, ac, lk, mq, ma, (co (ma &&& 4095).toNatClampNeg), (co (ma &&& 4095).toNatClampNeg), sw, io, dl, ha, rd, if (co (ma &&& 4095).toNatClampNeg) < 3584 then (if (co (ma &&& 4095).toNatClampNeg) < 3072 then 2 else 32) else 20, (md + 1), kf, kb, cn, pf, co, ou)
  by_cases q1 : (co (ma &&& 4095).toNatClampNeg) < 3584
  · rw [if_pos q1]
    by_cases q2 : (co (ma &&& 4095).toNatClampNeg) < 3072
    · rw [if_pos q2]
      exact Iv_mk ⟨⟨hpc, hac, hmq, hma, (hco _), (hco _), hsw⟩, hlk, ⟨hio, hdl, hha, hrd, hkf, hpf⟩, Or.inr (Or.inr (Or.inl rfl)), (fun _ => q2), hkb, hcn, hn, hco⟩
    · rw [if_neg q2]
      exact Iv_mk ⟨⟨hpc, hac, hmq, hma, (hco _), (hco _), hsw⟩, hlk, ⟨hio, hdl, hha, hrd, hkf, hpf⟩, Or.inr (Or.inr (Or.inr (Or.inr (Or.inr (Or.inr (Or.inr (Or.inr (Or.inr (Or.inr (Or.inr (Or.inr (Or.inr (Or.inr (Or.inr (Or.inr (Or.inr (Or.inr (Or.inr (Or.inr (Or.inr (Or.inr (Or.inr (Or.inr (Or.inr (Or.inr (Or.inr (Or.inr (Or.inl rfl)))))))))))))))))))))))))))), (fun q => by rcases q with q | q | q | q <;> exact absurd q (by decide)), hkb, hcn, hn, hco⟩
  · rw [if_neg q1]
    exact Iv_mk ⟨⟨hpc, hac, hmq, hma, (hco _), (hco _), hsw⟩, hlk, ⟨hio, hdl, hha, hrd, hkf, hpf⟩, Or.inr (Or.inr (Or.inr (Or.inr (Or.inr (Or.inr (Or.inr (Or.inr (Or.inr (Or.inr (Or.inr (Or.inr (Or.inr (Or.inr (Or.inr (Or.inr (Or.inr (Or.inl rfl))))))))))))))))), (fun q => by rcases q with q | q | q | q <;> exact absurd q (by decide)), hkb, hcn, hn, hco⟩
set_option maxRecDepth 100000 in
theorem iv_2 {n : Nat} {pc ac lk mq ma mb ir sw io dl ha rd md kf kb cn pf : Int32} {co ou : Nat → Int32} (I : Iv n (pc, ac, lk, mq, ma, mb, ir, sw, io, dl, ha, rd, 2, md, kf, kb, cn, pf, co, ou)) : Iv n (fin_ (mu2 (pc, ac, lk, mq, ma, mb, ir, sw, io, dl, ha, rd, 2, md, kf, kb, cn, pf, co, ou))).2 := by
  obtain ⟨⟨hpc, hac, hmq, hma, hmb, hir, hsw⟩, hlk, ⟨hio, hdl, hha, hrd, hkf, hpf⟩, hsn, hlt, hkb, hcn, hn, hco⟩ := I
  have hl := hlt (by decide)
  obtain ⟨z, hz, ez⟩ := di_8 hir hl
  by_cases q1 : ir &&& 256 = 0
  · show Iv n (pc, ac, lk, mq, ((if ir &&& 128 = 0 then 0 else (ma &&& 3968)) + (ir &&& 127)), mb, ir, sw, io, dl, ha, rd, (if ir &&& 256 = 0 then 8 + ir / 512 else 3), (md + 1), kf, kb, cn, pf, co, ou)
    rw [if_pos q1, ez]
    rcases hz with rfl | rfl | rfl | rfl | rfl | rfl
    · exact Iv_mk ⟨⟨hpc, hac, hmq, (by split; exact wo_127 _; exact wo_pg hma), hmb, hir, hsw⟩, hlk, ⟨hio, hdl, hha, hrd, hkf, hpf⟩, Or.inr (Or.inr (Or.inr (Or.inr (Or.inr (Or.inr (Or.inl rfl)))))), (fun q => by rcases q with q | q | q | q <;> exact absurd q (by decide)), hkb, hcn, hn, hco⟩
    · exact Iv_mk ⟨⟨hpc, hac, hmq, (by split; exact wo_127 _; exact wo_pg hma), hmb, hir, hsw⟩, hlk, ⟨hio, hdl, hha, hrd, hkf, hpf⟩, Or.inr (Or.inr (Or.inr (Or.inr (Or.inr (Or.inr (Or.inr (Or.inl rfl))))))), (fun q => by rcases q with q | q | q | q <;> exact absurd q (by decide)), hkb, hcn, hn, hco⟩
    · exact Iv_mk ⟨⟨hpc, hac, hmq, (by split; exact wo_127 _; exact wo_pg hma), hmb, hir, hsw⟩, hlk, ⟨hio, hdl, hha, hrd, hkf, hpf⟩, Or.inr (Or.inr (Or.inr (Or.inr (Or.inr (Or.inr (Or.inr (Or.inr (Or.inl rfl)))))))), (fun q => by rcases q with q | q | q | q <;> exact absurd q (by decide)), hkb, hcn, hn, hco⟩
    · exact Iv_mk ⟨⟨hpc, hac, hmq, (by split; exact wo_127 _; exact wo_pg hma), hmb, hir, hsw⟩, hlk, ⟨hio, hdl, hha, hrd, hkf, hpf⟩, Or.inr (Or.inr (Or.inr (Or.inr (Or.inr (Or.inr (Or.inr (Or.inr (Or.inr (Or.inl rfl))))))))), (fun q => by rcases q with q | q | q | q <;> exact absurd q (by decide)), hkb, hcn, hn, hco⟩
    · exact Iv_mk ⟨⟨hpc, hac, hmq, (by split; exact wo_127 _; exact wo_pg hma), hmb, hir, hsw⟩, hlk, ⟨hio, hdl, hha, hrd, hkf, hpf⟩, Or.inr (Or.inr (Or.inr (Or.inr (Or.inr (Or.inr (Or.inr (Or.inr (Or.inr (Or.inr (Or.inl rfl)))))))))), (fun q => by rcases q with q | q | q | q <;> exact absurd q (by decide)), hkb, hcn, hn, hco⟩
    · exact Iv_mk ⟨⟨hpc, hac, hmq, (by split; exact wo_127 _; exact wo_pg hma), hmb, hir, hsw⟩, hlk, ⟨hio, hdl, hha, hrd, hkf, hpf⟩, Or.inr (Or.inr (Or.inr (Or.inr (Or.inr (Or.inr (Or.inr (Or.inr (Or.inr (Or.inr (Or.inr (Or.inl rfl))))))))))), (fun q => by rcases q with q | q | q | q <;> exact absurd q (by decide)), hkb, hcn, hn, hco⟩
  · show Iv n (pc, ac, lk, mq, ((if ir &&& 128 = 0 then 0 else (ma &&& 3968)) + (ir &&& 127)), mb, ir, sw, io, dl, ha, rd, (if ir &&& 256 = 0 then 8 + ir / 512 else 3), (md + 1), kf, kb, cn, pf, co, ou)
    rw [if_neg q1]
    exact Iv_mk ⟨⟨hpc, hac, hmq, (by split; exact wo_127 _; exact wo_pg hma), hmb, hir, hsw⟩, hlk, ⟨hio, hdl, hha, hrd, hkf, hpf⟩, Or.inr (Or.inr (Or.inr (Or.inl rfl))), (fun _ => hl), hkb, hcn, hn, hco⟩
set_option maxRecDepth 100000 in
theorem iv_3 {n : Nat} {pc ac lk mq ma mb ir sw io dl ha rd md kf kb cn pf : Int32} {co ou : Nat → Int32} (I : Iv n (pc, ac, lk, mq, ma, mb, ir, sw, io, dl, ha, rd, 3, md, kf, kb, cn, pf, co, ou)) : Iv n (fin_ (mu3 (pc, ac, lk, mq, ma, mb, ir, sw, io, dl, ha, rd, 3, md, kf, kb, cn, pf, co, ou))).2 := by
  obtain ⟨⟨hpc, hac, hmq, hma, hmb, hir, hsw⟩, hlk, ⟨hio, hdl, hha, hrd, hkf, hpf⟩, hsn, hlt, hkb, hcn, hn, hco⟩ := I
  show Iv n (pc, ac, lk, mq, ma, (co (ma &&& 4095).toNatClampNeg), ir, sw, io, dl, ha, rd, if ma < 8 ∨ 15 < ma then 5 else 4, (md + 1), kf, kb, cn, pf, co, ou)
  by_cases q1 : ma < 8 ∨ 15 < ma
  · rw [if_pos q1]
    exact Iv_mk ⟨⟨hpc, hac, hmq, hma, (hco _), hir, hsw⟩, hlk, ⟨hio, hdl, hha, hrd, hkf, hpf⟩, Or.inr (Or.inr (Or.inr (Or.inr (Or.inr (Or.inl rfl))))), (fun _ => hlt (by decide)), hkb, hcn, hn, hco⟩
  · rw [if_neg q1]
    exact Iv_mk ⟨⟨hpc, hac, hmq, hma, (hco _), hir, hsw⟩, hlk, ⟨hio, hdl, hha, hrd, hkf, hpf⟩, Or.inr (Or.inr (Or.inr (Or.inr (Or.inl rfl)))), (fun _ => hlt (by decide)), hkb, hcn, hn, hco⟩
set_option maxRecDepth 100000 in
theorem iv_4 {n : Nat} {pc ac lk mq ma mb ir sw io dl ha rd md kf kb cn pf : Int32} {co ou : Nat → Int32} (I : Iv n (pc, ac, lk, mq, ma, mb, ir, sw, io, dl, ha, rd, 4, md, kf, kb, cn, pf, co, ou)) : Iv n (fin_ (mu4 (pc, ac, lk, mq, ma, mb, ir, sw, io, dl, ha, rd, 4, md, kf, kb, cn, pf, co, ou))).2 := by
  obtain ⟨⟨hpc, hac, hmq, hma, hmb, hir, hsw⟩, hlk, ⟨hio, hdl, hha, hrd, hkf, hpf⟩, hsn, hlt, hkb, hcn, hn, hco⟩ := I
  show Iv n (pc, ac, lk, mq, ma, ((mb + 1) &&& 4095), ir, sw, io, dl, ha, rd, 5, (md + 1), kf, kb, cn, pf, (upd co (ma &&& 4095).toNatClampNeg (((mb + 1) &&& 4095) &&& 4095)), ou)
  exact Iv_mk ⟨⟨hpc, hac, hmq, hma, (an_an _), hir, hsw⟩, hlk, ⟨hio, hdl, hha, hrd, hkf, hpf⟩, Or.inr (Or.inr (Or.inr (Or.inr (Or.inr (Or.inl rfl))))), (fun _ => hlt (by decide)), hkb, hcn, hn, (wo_up hco _ (an_an _))⟩
set_option maxRecDepth 100000 in
theorem iv_5 {n : Nat} {pc ac lk mq ma mb ir sw io dl ha rd md kf kb cn pf : Int32} {co ou : Nat → Int32} (I : Iv n (pc, ac, lk, mq, ma, mb, ir, sw, io, dl, ha, rd, 5, md, kf, kb, cn, pf, co, ou)) : Iv n (fin_ (mu5 (pc, ac, lk, mq, ma, mb, ir, sw, io, dl, ha, rd, 5, md, kf, kb, cn, pf, co, ou))).2 := by
  obtain ⟨⟨hpc, hac, hmq, hma, hmb, hir, hsw⟩, hlk, ⟨hio, hdl, hha, hrd, hkf, hpf⟩, hsn, hlt, hkb, hcn, hn, hco⟩ := I
  have hl := hlt (by decide)
  obtain ⟨z, hz, ez⟩ := di_8 hir hl
  show Iv n (pc, ac, lk, mq, mb, mb, ir, sw, io, dl, ha, rd, 8 + ir / 512, (md + 1), kf, kb, cn, pf, co, ou)
  rw [ez]
  rcases hz with rfl | rfl | rfl | rfl | rfl | rfl
  · exact Iv_mk ⟨⟨hpc, hac, hmq, hmb, hmb, hir, hsw⟩, hlk, ⟨hio, hdl, hha, hrd, hkf, hpf⟩, Or.inr (Or.inr (Or.inr (Or.inr (Or.inr (Or.inr (Or.inl rfl)))))), (fun q => by rcases q with q | q | q | q <;> exact absurd q (by decide)), hkb, hcn, hn, hco⟩
  · exact Iv_mk ⟨⟨hpc, hac, hmq, hmb, hmb, hir, hsw⟩, hlk, ⟨hio, hdl, hha, hrd, hkf, hpf⟩, Or.inr (Or.inr (Or.inr (Or.inr (Or.inr (Or.inr (Or.inr (Or.inl rfl))))))), (fun q => by rcases q with q | q | q | q <;> exact absurd q (by decide)), hkb, hcn, hn, hco⟩
  · exact Iv_mk ⟨⟨hpc, hac, hmq, hmb, hmb, hir, hsw⟩, hlk, ⟨hio, hdl, hha, hrd, hkf, hpf⟩, Or.inr (Or.inr (Or.inr (Or.inr (Or.inr (Or.inr (Or.inr (Or.inr (Or.inl rfl)))))))), (fun q => by rcases q with q | q | q | q <;> exact absurd q (by decide)), hkb, hcn, hn, hco⟩
  · exact Iv_mk ⟨⟨hpc, hac, hmq, hmb, hmb, hir, hsw⟩, hlk, ⟨hio, hdl, hha, hrd, hkf, hpf⟩, Or.inr (Or.inr (Or.inr (Or.inr (Or.inr (Or.inr (Or.inr (Or.inr (Or.inr (Or.inl rfl))))))))), (fun q => by rcases q with q | q | q | q <;> exact absurd q (by decide)), hkb, hcn, hn, hco⟩
  · exact Iv_mk ⟨⟨hpc, hac, hmq, hmb, hmb, hir, hsw⟩, hlk, ⟨hio, hdl, hha, hrd, hkf, hpf⟩, Or.inr (Or.inr (Or.inr (Or.inr (Or.inr (Or.inr (Or.inr (Or.inr (Or.inr (Or.inr (Or.inl rfl)))))))))), (fun q => by rcases q with q | q | q | q <;> exact absurd q (by decide)), hkb, hcn, hn, hco⟩
  · exact Iv_mk ⟨⟨hpc, hac, hmq, hmb, hmb, hir, hsw⟩, hlk, ⟨hio, hdl, hha, hrd, hkf, hpf⟩, Or.inr (Or.inr (Or.inr (Or.inr (Or.inr (Or.inr (Or.inr (Or.inr (Or.inr (Or.inr (Or.inr (Or.inl rfl))))))))))), (fun q => by rcases q with q | q | q | q <;> exact absurd q (by decide)), hkb, hcn, hn, hco⟩
set_option maxRecDepth 100000 in
theorem iv_8 {n : Nat} {pc ac lk mq ma mb ir sw io dl ha rd md kf kb cn pf : Int32} {co ou : Nat → Int32} (I : Iv n (pc, ac, lk, mq, ma, mb, ir, sw, io, dl, ha, rd, 8, md, kf, kb, cn, pf, co, ou)) : Iv n (fin_ (mu8 (pc, ac, lk, mq, ma, mb, ir, sw, io, dl, ha, rd, 8, md, kf, kb, cn, pf, co, ou))).2 := by
  obtain ⟨⟨hpc, hac, hmq, hma, hmb, hir, hsw⟩, hlk, ⟨hio, hdl, hha, hrd, hkf, hpf⟩, hsn, hlt, hkb, hcn, hn, hco⟩ := I
  show Iv n (pc, ac, lk, mq, ma, (co (ma &&& 4095).toNatClampNeg), ir, sw, io, dl, ha, rd, 16, (md + 1), kf, kb, cn, pf, co, ou)
  exact Iv_mk ⟨⟨hpc, hac, hmq, hma, (hco _), hir, hsw⟩, hlk, ⟨hio, hdl, hha, hrd, hkf, hpf⟩, Or.inr (Or.inr (Or.inr (Or.inr (Or.inr (Or.inr (Or.inr (Or.inr (Or.inr (Or.inr (Or.inr (Or.inr (Or.inr (Or.inl rfl))))))))))))), (fun q => by rcases q with q | q | q | q <;> exact absurd q (by decide)), hkb, hcn, hn, hco⟩
set_option maxRecDepth 100000 in
theorem iv_9 {n : Nat} {pc ac lk mq ma mb ir sw io dl ha rd md kf kb cn pf : Int32} {co ou : Nat → Int32} (I : Iv n (pc, ac, lk, mq, ma, mb, ir, sw, io, dl, ha, rd, 9, md, kf, kb, cn, pf, co, ou)) : Iv n (fin_ (mu9 (pc, ac, lk, mq, ma, mb, ir, sw, io, dl, ha, rd, 9, md, kf, kb, cn, pf, co, ou))).2 := by
  obtain ⟨⟨hpc, hac, hmq, hma, hmb, hir, hsw⟩, hlk, ⟨hio, hdl, hha, hrd, hkf, hpf⟩, hsn, hlt, hkb, hcn, hn, hco⟩ := I
  show Iv n (pc, ac, lk, mq, ma, (co (ma &&& 4095).toNatClampNeg), ir, sw, io, dl, ha, rd, 17, (md + 1), kf, kb, cn, pf, co, ou)
  exact Iv_mk ⟨⟨hpc, hac, hmq, hma, (hco _), hir, hsw⟩, hlk, ⟨hio, hdl, hha, hrd, hkf, hpf⟩, Or.inr (Or.inr (Or.inr (Or.inr (Or.inr (Or.inr (Or.inr (Or.inr (Or.inr (Or.inr (Or.inr (Or.inr (Or.inr (Or.inr (Or.inl rfl)))))))))))))), (fun q => by rcases q with q | q | q | q <;> exact absurd q (by decide)), hkb, hcn, hn, hco⟩
set_option maxRecDepth 100000 in
theorem iv_10 {n : Nat} {pc ac lk mq ma mb ir sw io dl ha rd md kf kb cn pf : Int32} {co ou : Nat → Int32} (I : Iv n (pc, ac, lk, mq, ma, mb, ir, sw, io, dl, ha, rd, 10, md, kf, kb, cn, pf, co, ou)) : Iv n (fin_ (mu10 (pc, ac, lk, mq, ma, mb, ir, sw, io, dl, ha, rd, 10, md, kf, kb, cn, pf, co, ou))).2 := by
  obtain ⟨⟨hpc, hac, hmq, hma, hmb, hir, hsw⟩, hlk, ⟨hio, hdl, hha, hrd, hkf, hpf⟩, hsn, hlt, hkb, hcn, hn, hco⟩ := I
  show Iv n (pc, ac, lk, mq, ma, (((co (ma &&& 4095).toNatClampNeg) + 1) &&& 4095), ir, sw, io, dl, ha, rd, 18, (md + 1), kf, kb, cn, pf, co, ou)
  exact Iv_mk ⟨⟨hpc, hac, hmq, hma, (an_an _), hir, hsw⟩, hlk, ⟨hio, hdl, hha, hrd, hkf, hpf⟩, Or.inr (Or.inr (Or.inr (Or.inr (Or.inr (Or.inr (Or.inr (Or.inr (Or.inr (Or.inr (Or.inr (Or.inr (Or.inr (Or.inr (Or.inr (Or.inl rfl))))))))))))))), (fun q => by rcases q with q | q | q | q <;> exact absurd q (by decide)), hkb, hcn, hn, hco⟩
set_option maxRecDepth 100000 in
theorem iv_11 {n : Nat} {pc ac lk mq ma mb ir sw io dl ha rd md kf kb cn pf : Int32} {co ou : Nat → Int32} (I : Iv n (pc, ac, lk, mq, ma, mb, ir, sw, io, dl, ha, rd, 11, md, kf, kb, cn, pf, co, ou)) : Iv n (fin_ (mu11 (pc, ac, lk, mq, ma, mb, ir, sw, io, dl, ha, rd, 11, md, kf, kb, cn, pf, co, ou))).2 := by
  obtain ⟨⟨hpc, hac, hmq, hma, hmb, hir, hsw⟩, hlk, ⟨hio, hdl, hha, hrd, hkf, hpf⟩, hsn, hlt, hkb, hcn, hn, hco⟩ := I
  show Iv n (pc, ac, lk, mq, ma, ac, ir, sw, io, dl, ha, rd, 19, (md + 1), kf, kb, cn, pf, co, ou)
  exact Iv_mk ⟨⟨hpc, hac, hmq, hma, hac, hir, hsw⟩, hlk, ⟨hio, hdl, hha, hrd, hkf, hpf⟩, Or.inr (Or.inr (Or.inr (Or.inr (Or.inr (Or.inr (Or.inr (Or.inr (Or.inr (Or.inr (Or.inr (Or.inr (Or.inr (Or.inr (Or.inr (Or.inr (Or.inl rfl)))))))))))))))), (fun q => by rcases q with q | q | q | q <;> exact absurd q (by decide)), hkb, hcn, hn, hco⟩
set_option maxRecDepth 100000 in
theorem iv_12 {n : Nat} {pc ac lk mq ma mb ir sw io dl ha rd md kf kb cn pf : Int32} {co ou : Nat → Int32} (I : Iv n (pc, ac, lk, mq, ma, mb, ir, sw, io, dl, ha, rd, 12, md, kf, kb, cn, pf, co, ou)) : Iv n (fin_ (mu12 (pc, ac, lk, mq, ma, mb, ir, sw, io, dl, ha, rd, 12, md, kf, kb, cn, pf, co, ou))).2 := by
  obtain ⟨⟨hpc, hac, hmq, hma, hmb, hir, hsw⟩, hlk, ⟨hio, hdl, hha, hrd, hkf, hpf⟩, hsn, hlt, hkb, hcn, hn, hco⟩ := I
  show Iv n (pc, ac, lk, mq, ma, pc, ir, sw, io, dl, ha, rd, 15, (md + 1), kf, kb, cn, pf, co, ou)
  exact Iv_mk ⟨⟨hpc, hac, hmq, hma, hpc, hir, hsw⟩, hlk, ⟨hio, hdl, hha, hrd, hkf, hpf⟩, Or.inr (Or.inr (Or.inr (Or.inr (Or.inr (Or.inr (Or.inr (Or.inr (Or.inr (Or.inr (Or.inr (Or.inr (Or.inl rfl)))))))))))), (fun q => by rcases q with q | q | q | q <;> exact absurd q (by decide)), hkb, hcn, hn, hco⟩
set_option maxRecDepth 100000 in
theorem iv_13 {n : Nat} {pc ac lk mq ma mb ir sw io dl ha rd md kf kb cn pf : Int32} {co ou : Nat → Int32} (I : Iv n (pc, ac, lk, mq, ma, mb, ir, sw, io, dl, ha, rd, 13, md, kf, kb, cn, pf, co, ou)) : Iv n (fin_ (mu13 (pc, ac, lk, mq, ma, mb, ir, sw, io, dl, ha, rd, 13, md, kf, kb, cn, pf, co, ou))).2 := by
  obtain ⟨⟨hpc, hac, hmq, hma, hmb, hir, hsw⟩, hlk, ⟨hio, hdl, hha, hrd, hkf, hpf⟩, hsn, hlt, hkb, hcn, hn, hco⟩ := I
  show Iv n (ma, ac, lk, mq, ma, mb, ir, sw, io, dl, ha, rd, 0, (md + 1), kf, kb, cn, pf, co, ou)
  exact Iv_mk ⟨⟨hma, hac, hmq, hma, hmb, hir, hsw⟩, hlk, ⟨hio, hdl, hha, hrd, hkf, hpf⟩, Or.inl rfl, (fun q => by rcases q with q | q | q | q <;> exact absurd q (by decide)), hkb, hcn, hn, hco⟩
set_option maxRecDepth 100000 in
theorem iv_15 {n : Nat} {pc ac lk mq ma mb ir sw io dl ha rd md kf kb cn pf : Int32} {co ou : Nat → Int32} (I : Iv n (pc, ac, lk, mq, ma, mb, ir, sw, io, dl, ha, rd, 15, md, kf, kb, cn, pf, co, ou)) : Iv n (fin_ (mu15 (pc, ac, lk, mq, ma, mb, ir, sw, io, dl, ha, rd, 15, md, kf, kb, cn, pf, co, ou))).2 := by
  obtain ⟨⟨hpc, hac, hmq, hma, hmb, hir, hsw⟩, hlk, ⟨hio, hdl, hha, hrd, hkf, hpf⟩, hsn, hlt, hkb, hcn, hn, hco⟩ := I
  show Iv n (((ma + 1) &&& 4095), ac, lk, mq, ma, mb, ir, sw, io, dl, ha, rd, 0, (md + 1), kf, kb, cn, pf, (upd co (ma &&& 4095).toNatClampNeg (mb &&& 4095)), ou)
  exact Iv_mk ⟨⟨(an_an _), hac, hmq, hma, hmb, hir, hsw⟩, hlk, ⟨hio, hdl, hha, hrd, hkf, hpf⟩, Or.inl rfl, (fun q => by rcases q with q | q | q | q <;> exact absurd q (by decide)), hkb, hcn, hn, (wo_up hco _ (an_an _))⟩
set_option maxRecDepth 100000 in
theorem iv_16 {n : Nat} {pc ac lk mq ma mb ir sw io dl ha rd md kf kb cn pf : Int32} {co ou : Nat → Int32} (I : Iv n (pc, ac, lk, mq, ma, mb, ir, sw, io, dl, ha, rd, 16, md, kf, kb, cn, pf, co, ou)) : Iv n (fin_ (mu16 (pc, ac, lk, mq, ma, mb, ir, sw, io, dl, ha, rd, 16, md, kf, kb, cn, pf, co, ou))).2 := by
  obtain ⟨⟨hpc, hac, hmq, hma, hmb, hir, hsw⟩, hlk, ⟨hio, hdl, hha, hrd, hkf, hpf⟩, hsn, hlt, hkb, hcn, hn, hco⟩ := I
  show Iv n (pc, (ac &&& mb), lk, mq, ma, mb, ir, sw, io, dl, ha, rd, 0, (md + 1), kf, kb, cn, pf, co, ou)
  exact Iv_mk ⟨⟨hpc, (wo_and hac), hmq, hma, hmb, hir, hsw⟩, hlk, ⟨hio, hdl, hha, hrd, hkf, hpf⟩, Or.inl rfl, (fun q => by rcases q with q | q | q | q <;> exact absurd q (by decide)), hkb, hcn, hn, hco⟩
set_option maxRecDepth 100000 in
theorem iv_17 {n : Nat} {pc ac lk mq ma mb ir sw io dl ha rd md kf kb cn pf : Int32} {co ou : Nat → Int32} (I : Iv n (pc, ac, lk, mq, ma, mb, ir, sw, io, dl, ha, rd, 17, md, kf, kb, cn, pf, co, ou)) : Iv n (fin_ (mu17 (pc, ac, lk, mq, ma, mb, ir, sw, io, dl, ha, rd, 17, md, kf, kb, cn, pf, co, ou))).2 := by
  obtain ⟨⟨hpc, hac, hmq, hma, hmb, hir, hsw⟩, hlk, ⟨hio, hdl, hha, hrd, hkf, hpf⟩, hsn, hlt, hkb, hcn, hn, hco⟩ := I
  show Iv n (pc, ((ac + mb) &&& 4095), (if ac + mb ≤ 4095 then lk else 1 - lk), mq, ma, mb, ir, sw, io, dl, ha, rd, 0, (md + 1), kf, kb, cn, pf, co, ou)
  exact Iv_mk ⟨⟨hpc, (an_an _), hmq, hma, hmb, hir, hsw⟩, (if_p (P := fun z => z = 0 ∨ z = 1) hlk (lk_t hlk)), ⟨hio, hdl, hha, hrd, hkf, hpf⟩, Or.inl rfl, (fun q => by rcases q with q | q | q | q <;> exact absurd q (by decide)), hkb, hcn, hn, hco⟩
set_option maxRecDepth 100000 in
theorem iv_18 {n : Nat} {pc ac lk mq ma mb ir sw io dl ha rd md kf kb cn pf : Int32} {co ou : Nat → Int32} (I : Iv n (pc, ac, lk, mq, ma, mb, ir, sw, io, dl, ha, rd, 18, md, kf, kb, cn, pf, co, ou)) : Iv n (fin_ (mu18 (pc, ac, lk, mq, ma, mb, ir, sw, io, dl, ha, rd, 18, md, kf, kb, cn, pf, co, ou))).2 := by
  obtain ⟨⟨hpc, hac, hmq, hma, hmb, hir, hsw⟩, hlk, ⟨hio, hdl, hha, hrd, hkf, hpf⟩, hsn, hlt, hkb, hcn, hn, hco⟩ := I
  show Iv n ((if mb = 0 then ((pc + 1) &&& 4095) else pc), ac, lk, mq, ma, mb, ir, sw, io, dl, ha, rd, 0, (md + 1), kf, kb, cn, pf, (upd co (ma &&& 4095).toNatClampNeg (mb &&& 4095)), ou)
  exact Iv_mk ⟨⟨(if_p (P := fun z => z &&& 4095 = z) (an_an _) hpc), hac, hmq, hma, hmb, hir, hsw⟩, hlk, ⟨hio, hdl, hha, hrd, hkf, hpf⟩, Or.inl rfl, (fun q => by rcases q with q | q | q | q <;> exact absurd q (by decide)), hkb, hcn, hn, (wo_up hco _ (an_an _))⟩
set_option maxRecDepth 100000 in
theorem iv_19 {n : Nat} {pc ac lk mq ma mb ir sw io dl ha rd md kf kb cn pf : Int32} {co ou : Nat → Int32} (I : Iv n (pc, ac, lk, mq, ma, mb, ir, sw, io, dl, ha, rd, 19, md, kf, kb, cn, pf, co, ou)) : Iv n (fin_ (mu19 (pc, ac, lk, mq, ma, mb, ir, sw, io, dl, ha, rd, 19, md, kf, kb, cn, pf, co, ou))).2 := by
  obtain ⟨⟨hpc, hac, hmq, hma, hmb, hir, hsw⟩, hlk, ⟨hio, hdl, hha, hrd, hkf, hpf⟩, hsn, hlt, hkb, hcn, hn, hco⟩ := I
  show Iv n (pc, 0, lk, mq, ma, mb, ir, sw, io, dl, ha, rd, 0, (md + 1), kf, kb, cn, pf, (upd co (ma &&& 4095).toNatClampNeg (mb &&& 4095)), ou)
  exact Iv_mk ⟨⟨hpc, wo_0, hmq, hma, hmb, hir, hsw⟩, hlk, ⟨hio, hdl, hha, hrd, hkf, hpf⟩, Or.inl rfl, (fun q => by rcases q with q | q | q | q <;> exact absurd q (by decide)), hkb, hcn, hn, (wo_up hco _ (an_an _))⟩
set_option maxRecDepth 100000 in
theorem iv_20 {n : Nat} {pc ac lk mq ma mb ir sw io dl ha rd md kf kb cn pf : Int32} {co ou : Nat → Int32} (I : Iv n (pc, ac, lk, mq, ma, mb, ir, sw, io, dl, ha, rd, 20, md, kf, kb, cn, pf, co, ou)) : Iv n (fin_ (mu20 (pc, ac, lk, mq, ma, mb, ir, sw, io, dl, ha, rd, 20, md, kf, kb, cn, pf, co, ou))).2 := by
  obtain ⟨⟨hpc, hac, hmq, hma, hmb, hir, hsw⟩, hlk, ⟨hio, hdl, hha, hrd, hkf, hpf⟩, hsn, hlt, hkb, hcn, hn, hco⟩ := I
  show Iv n (pc, ac, lk, mq, ma, mb, ir, sw, io, dl, ha, rd, (if ir &&& 256 = 0 then 21 else (if ir &&& 1 = 0 then 26 else 30)), (md + 1), kf, kb, cn, pf, co, ou)
  by_cases q1 : ir &&& 256 = 0
  · rw [if_pos q1]
    exact Iv_mk ⟨⟨hpc, hac, hmq, hma, hmb, hir, hsw⟩, hlk, ⟨hio, hdl, hha, hrd, hkf, hpf⟩, Or.inr (Or.inr (Or.inr (Or.inr (Or.inr (Or.inr (Or.inr (Or.inr (Or.inr (Or.inr (Or.inr (Or.inr (Or.inr (Or.inr (Or.inr (Or.inr (Or.inr (Or.inr (Or.inl rfl)))))))))))))))))), (fun q => by rcases q with q | q | q | q <;> exact absurd q (by decide)), hkb, hcn, hn, hco⟩
  · rw [if_neg q1]
    by_cases q2 : ir &&& 1 = 0
    · rw [if_pos q2]
      exact Iv_mk ⟨⟨hpc, hac, hmq, hma, hmb, hir, hsw⟩, hlk, ⟨hio, hdl, hha, hrd, hkf, hpf⟩, Or.inr (Or.inr (Or.inr (Or.inr (Or.inr (Or.inr (Or.inr (Or.inr (Or.inr (Or.inr (Or.inr (Or.inr (Or.inr (Or.inr (Or.inr (Or.inr (Or.inr (Or.inr (Or.inr (Or.inr (Or.inr (Or.inr (Or.inr (Or.inl rfl))))))))))))))))))))))), (fun q => by rcases q with q | q | q | q <;> exact absurd q (by decide)), hkb, hcn, hn, hco⟩
    · rw [if_neg q2]
      exact Iv_mk ⟨⟨hpc, hac, hmq, hma, hmb, hir, hsw⟩, hlk, ⟨hio, hdl, hha, hrd, hkf, hpf⟩, Or.inr (Or.inr (Or.inr (Or.inr (Or.inr (Or.inr (Or.inr (Or.inr (Or.inr (Or.inr (Or.inr (Or.inr (Or.inr (Or.inr (Or.inr (Or.inr (Or.inr (Or.inr (Or.inr (Or.inr (Or.inr (Or.inr (Or.inr (Or.inr (Or.inr (Or.inr (Or.inl rfl)))))))))))))))))))))))))), (fun q => by rcases q with q | q | q | q <;> exact absurd q (by decide)), hkb, hcn, hn, hco⟩
set_option maxRecDepth 100000 in
theorem iv_21 {n : Nat} {pc ac lk mq ma mb ir sw io dl ha rd md kf kb cn pf : Int32} {co ou : Nat → Int32} (I : Iv n (pc, ac, lk, mq, ma, mb, ir, sw, io, dl, ha, rd, 21, md, kf, kb, cn, pf, co, ou)) : Iv n (fin_ (mu21 (pc, ac, lk, mq, ma, mb, ir, sw, io, dl, ha, rd, 21, md, kf, kb, cn, pf, co, ou))).2 := by
  obtain ⟨⟨hpc, hac, hmq, hma, hmb, hir, hsw⟩, hlk, ⟨hio, hdl, hha, hrd, hkf, hpf⟩, hsn, hlt, hkb, hcn, hn, hco⟩ := I
  show Iv n (pc, (if ir &&& 128 = 0 then ac else 0), (if ir &&& 64 = 0 then lk else 0), mq, ma, mb, ir, sw, io, dl, ha, rd, 22, (md + 1), kf, kb, cn, pf, co, ou)
  exact Iv_mk ⟨⟨hpc, (if_p (P := fun z => z &&& 4095 = z) hac wo_0), hmq, hma, hmb, hir, hsw⟩, (if_p (P := fun z => z = 0 ∨ z = 1) hlk (Or.inl rfl)), ⟨hio, hdl, hha, hrd, hkf, hpf⟩, Or.inr (Or.inr (Or.inr (Or.inr (Or.inr (Or.inr (Or.inr (Or.inr (Or.inr (Or.inr (Or.inr (Or.inr (Or.inr (Or.inr (Or.inr (Or.inr (Or.inr (Or.inr (Or.inr (Or.inl rfl))))))))))))))))))), (fun q => by rcases q with q | q | q | q <;> exact absurd q (by decide)), hkb, hcn, hn, hco⟩
set_option maxRecDepth 100000 in
theorem iv_22 {n : Nat} {pc ac lk mq ma mb ir sw io dl ha rd md kf kb cn pf : Int32} {co ou : Nat → Int32} (I : Iv n (pc, ac, lk, mq, ma, mb, ir, sw, io, dl, ha, rd, 22, md, kf, kb, cn, pf, co, ou)) : Iv n (fin_ (mu22 (pc, ac, lk, mq, ma, mb, ir, sw, io, dl, ha, rd, 22, md, kf, kb, cn, pf, co, ou))).2 := by
  obtain ⟨⟨hpc, hac, hmq, hma, hmb, hir, hsw⟩, hlk, ⟨hio, hdl, hha, hrd, hkf, hpf⟩, hsn, hlt, hkb, hcn, hn, hco⟩ := I
  show Iv n (pc, (if ir &&& 32 = 0 then ac else (4095 - ac)), (if ir &&& 16 = 0 then lk else (1 - lk)), mq, ma, mb, ir, sw, io, dl, ha, rd, 23, (md + 1), kf, kb, cn, pf, co, ou)
  exact Iv_mk ⟨⟨hpc, (if_p (P := fun z => z &&& 4095 = z) hac (wo_sub hac)), hmq, hma, hmb, hir, hsw⟩, (if_p (P := fun z => z = 0 ∨ z = 1) hlk (lk_t hlk)), ⟨hio, hdl, hha, hrd, hkf, hpf⟩, Or.inr (Or.inr (Or.inr (Or.inr (Or.inr (Or.inr (Or.inr (Or.inr (Or.inr (Or.inr (Or.inr (Or.inr (Or.inr (Or.inr (Or.inr (Or.inr (Or.inr (Or.inr (Or.inr (Or.inr (Or.inl rfl)))))))))))))))))))), (fun q => by rcases q with q | q | q | q <;> exact absurd q (by decide)), hkb, hcn, hn, hco⟩
set_option maxRecDepth 100000 in
theorem iv_23 {n : Nat} {pc ac lk mq ma mb ir sw io dl ha rd md kf kb cn pf : Int32} {co ou : Nat → Int32} (I : Iv n (pc, ac, lk, mq, ma, mb, ir, sw, io, dl, ha, rd, 23, md, kf, kb, cn, pf, co, ou)) : Iv n (fin_ (mu23 (pc, ac, lk, mq, ma, mb, ir, sw, io, dl, ha, rd, 23, md, kf, kb, cn, pf, co, ou))).2 := by
  obtain ⟨⟨hpc, hac, hmq, hma, hmb, hir, hsw⟩, hlk, ⟨hio, hdl, hha, hrd, hkf, hpf⟩, hsn, hlt, hkb, hcn, hn, hco⟩ := I
  show Iv n (fin_ ((if ir &&& 12 = 0 then 0 else 24), (if ir &&& 1 = 0 then _ else _))).2
  by_cases q1 : ir &&& 12 = 0 <;> by_cases q2 : ir &&& 1 = 0
  · rw [if_pos q1, if_pos q2]
    show Iv n (pc, ac, lk, mq, ma, mb, ir, sw, io, dl, ha, rd, 0, (md + 1), kf, kb, cn, pf, co, ou)
    exact Iv_mk ⟨⟨hpc, hac, hmq, hma, hmb, hir, hsw⟩, hlk, ⟨hio, hdl, hha, hrd, hkf, hpf⟩, Or.inl rfl, (fun q => by rcases q with q | q | q | q <;> exact absurd q (by decide)), hkb, hcn, hn, hco⟩
  · rw [if_pos q1, if_neg q2]
    show Iv n (pc, ((ac + 1) &&& 4095), (if ac + 1 ≤ 4095 then lk else 1 - lk), mq, ma, mb, ir, sw, io, dl, ha, rd, 0, (md + 1), kf, kb, cn, pf, co, ou)
    exact Iv_mk ⟨⟨hpc, (an_an _), hmq, hma, hmb, hir, hsw⟩, (if_p (P := fun z => z = 0 ∨ z = 1) hlk (lk_t hlk)), ⟨hio, hdl, hha, hrd, hkf, hpf⟩, Or.inl rfl, (fun q => by rcases q with q | q | q | q <;> exact absurd q (by decide)), hkb, hcn, hn, hco⟩
  · rw [if_neg q1, if_pos q2]
    show Iv n (pc, ac, lk, mq, ma, mb, ir, sw, io, dl, ha, rd, 24, (md + 1), kf, kb, cn, pf, co, ou)
    exact Iv_mk ⟨⟨hpc, hac, hmq, hma, hmb, hir, hsw⟩, hlk, ⟨hio, hdl, hha, hrd, hkf, hpf⟩, Or.inr (Or.inr (Or.inr (Or.inr (Or.inr (Or.inr (Or.inr (Or.inr (Or.inr (Or.inr (Or.inr (Or.inr (Or.inr (Or.inr (Or.inr (Or.inr (Or.inr (Or.inr (Or.inr (Or.inr (Or.inr (Or.inl rfl))))))))))))))))))))), (fun q => by rcases q with q | q | q | q <;> exact absurd q (by decide)), hkb, hcn, hn, hco⟩
  · rw [if_neg q1, if_neg q2]
    show Iv n (pc, ((ac + 1) &&& 4095), (if ac + 1 ≤ 4095 then lk else 1 - lk), mq, ma, mb, ir, sw, io, dl, ha, rd, 24, (md + 1), kf, kb, cn, pf, co, ou)
    exact Iv_mk ⟨⟨hpc, (an_an _), hmq, hma, hmb, hir, hsw⟩, (if_p (P := fun z => z = 0 ∨ z = 1) hlk (lk_t hlk)), ⟨hio, hdl, hha, hrd, hkf, hpf⟩, Or.inr (Or.inr (Or.inr (Or.inr (Or.inr (Or.inr (Or.inr (Or.inr (Or.inr (Or.inr (Or.inr (Or.inr (Or.inr (Or.inr (Or.inr (Or.inr (Or.inr (Or.inr (Or.inr (Or.inr (Or.inr (Or.inl rfl))))))))))))))))))))), (fun q => by rcases q with q | q | q | q <;> exact absurd q (by decide)), hkb, hcn, hn, hco⟩
set_option maxRecDepth 100000 in
theorem iv_24 {n : Nat} {pc ac lk mq ma mb ir sw io dl ha rd md kf kb cn pf : Int32} {co ou : Nat → Int32} (I : Iv n (pc, ac, lk, mq, ma, mb, ir, sw, io, dl, ha, rd, 24, md, kf, kb, cn, pf, co, ou)) : Iv n (fin_ (mu24 (pc, ac, lk, mq, ma, mb, ir, sw, io, dl, ha, rd, 24, md, kf, kb, cn, pf, co, ou))).2 := by
  obtain ⟨⟨hpc, hac, hmq, hma, hmb, hir, hsw⟩, hlk, ⟨hio, hdl, hha, hrd, hkf, hpf⟩, hsn, hlt, hkb, hcn, hn, hco⟩ := I
  show Iv n (pc, (rg_ lk ac ir &&& 4095), (rg_ lk ac ir >>> ((12 : Int32) &&& 31)), mq, ma, mb, ir, sw, io, dl, ha, rd, (if ir &&& 2 = 0 then 0 else 25), (md + 1), kf, kb, cn, pf, co, ou)
  by_cases q1 : ir &&& 2 = 0
  · rw [if_pos q1]
    exact Iv_mk ⟨⟨hpc, (an_an _), hmq, hma, hmb, hir, hsw⟩, (rg_lk ir hlk hac), ⟨hio, hdl, hha, hrd, hkf, hpf⟩, Or.inl rfl, (fun q => by rcases q with q | q | q | q <;> exact absurd q (by decide)), hkb, hcn, hn, hco⟩
  · rw [if_neg q1]
    exact Iv_mk ⟨⟨hpc, (an_an _), hmq, hma, hmb, hir, hsw⟩, (rg_lk ir hlk hac), ⟨hio, hdl, hha, hrd, hkf, hpf⟩, Or.inr (Or.inr (Or.inr (Or.inr (Or.inr (Or.inr (Or.inr (Or.inr (Or.inr (Or.inr (Or.inr (Or.inr (Or.inr (Or.inr (Or.inr (Or.inr (Or.inr (Or.inr (Or.inr (Or.inr (Or.inr (Or.inr (Or.inl rfl)))))))))))))))))))))), (fun q => by rcases q with q | q | q | q <;> exact absurd q (by decide)), hkb, hcn, hn, hco⟩
set_option maxRecDepth 100000 in
theorem iv_25 {n : Nat} {pc ac lk mq ma mb ir sw io dl ha rd md kf kb cn pf : Int32} {co ou : Nat → Int32} (I : Iv n (pc, ac, lk, mq, ma, mb, ir, sw, io, dl, ha, rd, 25, md, kf, kb, cn, pf, co, ou)) : Iv n (fin_ (mu25 (pc, ac, lk, mq, ma, mb, ir, sw, io, dl, ha, rd, 25, md, kf, kb, cn, pf, co, ou))).2 := by
  obtain ⟨⟨hpc, hac, hmq, hma, hmb, hir, hsw⟩, hlk, ⟨hio, hdl, hha, hrd, hkf, hpf⟩, hsn, hlt, hkb, hcn, hn, hco⟩ := I
  show Iv n (pc, (rg_ lk ac ir &&& 4095), (rg_ lk ac ir >>> ((12 : Int32) &&& 31)), mq, ma, mb, ir, sw, io, dl, ha, rd, 0, (md + 1), kf, kb, cn, pf, co, ou)
  exact Iv_mk ⟨⟨hpc, (an_an _), hmq, hma, hmb, hir, hsw⟩, (rg_lk ir hlk hac), ⟨hio, hdl, hha, hrd, hkf, hpf⟩, Or.inl rfl, (fun q => by rcases q with q | q | q | q <;> exact absurd q (by decide)), hkb, hcn, hn, hco⟩
set_option maxRecDepth 100000 in
theorem iv_26 {n : Nat} {pc ac lk mq ma mb ir sw io dl ha rd md kf kb cn pf : Int32} {co ou : Nat → Int32} (I : Iv n (pc, ac, lk, mq, ma, mb, ir, sw, io, dl, ha, rd, 26, md, kf, kb, cn, pf, co, ou)) : Iv n (fin_ (mu26 (pc, ac, lk, mq, ma, mb, ir, sw, io, dl, ha, rd, 26, md, kf, kb, cn, pf, co, ou))).2 := by
  obtain ⟨⟨hpc, hac, hmq, hma, hmb, hir, hsw⟩, hlk, ⟨hio, hdl, hha, hrd, hkf, hpf⟩, hsn, hlt, hkb, hcn, hn, hco⟩ := I
  show Iv n ((if ((¬ ir &&& 64 = 0 ∧ ¬ ac < 2048) ∨ (¬ ir &&& 32 = 0 ∧ ac = 0) ∨ (¬ ir &&& 16 = 0 ∧ lk = 1)) ↔ ¬ ir &&& 8 = 0 then pc else ((pc + 1) &&& 4095)), ac, lk, mq, ma, mb, ir, sw, io, dl, ha, rd, 27, (md + 1), kf, kb, cn, pf, co, ou)
  exact Iv_mk ⟨⟨(if_p (P := fun z => z &&& 4095 = z) hpc (an_an _)), hac, hmq, hma, hmb, hir, hsw⟩, hlk, ⟨hio, hdl, hha, hrd, hkf, hpf⟩, Or.inr (Or.inr (Or.inr (Or.inr (Or.inr (Or.inr (Or.inr (Or.inr (Or.inr (Or.inr (Or.inr (Or.inr (Or.inr (Or.inr (Or.inr (Or.inr (Or.inr (Or.inr (Or.inr (Or.inr (Or.inr (Or.inr (Or.inr (Or.inr (Or.inl rfl)))))))))))))))))))))))), (fun q => by rcases q with q | q | q | q <;> exact absurd q (by decide)), hkb, hcn, hn, hco⟩
set_option maxRecDepth 100000 in
theorem iv_27 {n : Nat} {pc ac lk mq ma mb ir sw io dl ha rd md kf kb cn pf : Int32} {co ou : Nat → Int32} (I : Iv n (pc, ac, lk, mq, ma, mb, ir, sw, io, dl, ha, rd, 27, md, kf, kb, cn, pf, co, ou)) : Iv n (fin_ (mu27 (pc, ac, lk, mq, ma, mb, ir, sw, io, dl, ha, rd, 27, md, kf, kb, cn, pf, co, ou))).2 := by
  obtain ⟨⟨hpc, hac, hmq, hma, hmb, hir, hsw⟩, hlk, ⟨hio, hdl, hha, hrd, hkf, hpf⟩, hsn, hlt, hkb, hcn, hn, hco⟩ := I
  show Iv n (pc, (if ir &&& 128 = 0 then ac else 0), lk, mq, ma, mb, ir, sw, io, dl, ha, rd, (if ir &&& 6 = 0 then 0 else 28), (md + 1), kf, kb, cn, pf, co, ou)
  by_cases q1 : ir &&& 6 = 0
  · rw [if_pos q1]
    exact Iv_mk ⟨⟨hpc, (if_p (P := fun z => z &&& 4095 = z) hac wo_0), hmq, hma, hmb, hir, hsw⟩, hlk, ⟨hio, hdl, hha, hrd, hkf, hpf⟩, Or.inl rfl, (fun q => by rcases q with q | q | q | q <;> exact absurd q (by decide)), hkb, hcn, hn, hco⟩
  · rw [if_neg q1]
    exact Iv_mk ⟨⟨hpc, (if_p (P := fun z => z &&& 4095 = z) hac wo_0), hmq, hma, hmb, hir, hsw⟩, hlk, ⟨hio, hdl, hha, hrd, hkf, hpf⟩, Or.inr (Or.inr (Or.inr (Or.inr (Or.inr (Or.inr (Or.inr (Or.inr (Or.inr (Or.inr (Or.inr (Or.inr (Or.inr (Or.inr (Or.inr (Or.inr (Or.inr (Or.inr (Or.inr (Or.inr (Or.inr (Or.inr (Or.inr (Or.inr (Or.inr (Or.inl rfl))))))))))))))))))))))))), (fun q => by rcases q with q | q | q | q <;> exact absurd q (by decide)), hkb, hcn, hn, hco⟩
set_option maxRecDepth 100000 in
theorem iv_28 {n : Nat} {pc ac lk mq ma mb ir sw io dl ha rd md kf kb cn pf : Int32} {co ou : Nat → Int32} (I : Iv n (pc, ac, lk, mq, ma, mb, ir, sw, io, dl, ha, rd, 28, md, kf, kb, cn, pf, co, ou)) : Iv n (fin_ (mu28 (pc, ac, lk, mq, ma, mb, ir, sw, io, dl, ha, rd, 28, md, kf, kb, cn, pf, co, ou))).2 := by
  obtain ⟨⟨hpc, hac, hmq, hma, hmb, hir, hsw⟩, hlk, ⟨hio, hdl, hha, hrd, hkf, hpf⟩, hsn, hlt, hkb, hcn, hn, hco⟩ := I
  show Iv n (pc, (if ir &&& 4 = 0 then ac else (ac ||| sw)), lk, mq, ma, mb, ir, sw, io, dl, (if ir &&& 2 = 0 then ha else 1), rd, 0, (md + 1), kf, kb, cn, pf, co, ou)
  exact Iv_mk ⟨⟨hpc, (if_p (P := fun z => z &&& 4095 = z) hac (wo_or hac hsw)), hmq, hma, hmb, hir, hsw⟩, hlk, ⟨hio, hdl, (if_p (P := fun z => z = 0 ∨ z = 1) hha (Or.inr rfl)), hrd, hkf, hpf⟩, Or.inl rfl, (fun q => by rcases q with q | q | q | q <;> exact absurd q (by decide)), hkb, hcn, hn, hco⟩
set_option maxRecDepth 100000 in
theorem iv_30 {n : Nat} {pc ac lk mq ma mb ir sw io dl ha rd md kf kb cn pf : Int32} {co ou : Nat → Int32} (I : Iv n (pc, ac, lk, mq, ma, mb, ir, sw, io, dl, ha, rd, 30, md, kf, kb, cn, pf, co, ou)) : Iv n (fin_ (mu30 (pc, ac, lk, mq, ma, mb, ir, sw, io, dl, ha, rd, 30, md, kf, kb, cn, pf, co, ou))).2 := by
  obtain ⟨⟨hpc, hac, hmq, hma, hmb, hir, hsw⟩, hlk, ⟨hio, hdl, hha, hrd, hkf, hpf⟩, hsn, hlt, hkb, hcn, hn, hco⟩ := I
  show Iv n (pc, (if ir &&& 128 = 0 then ac else 0), lk, mq, ma, mb, ir, sw, io, dl, ha, rd, 31, (md + 1), kf, kb, cn, pf, co, ou)
  exact Iv_mk ⟨⟨hpc, (if_p (P := fun z => z &&& 4095 = z) hac wo_0), hmq, hma, hmb, hir, hsw⟩, hlk, ⟨hio, hdl, hha, hrd, hkf, hpf⟩, Or.inr (Or.inr (Or.inr (Or.inr (Or.inr (Or.inr (Or.inr (Or.inr (Or.inr (Or.inr (Or.inr (Or.inr (Or.inr (Or.inr (Or.inr (Or.inr (Or.inr (Or.inr (Or.inr (Or.inr (Or.inr (Or.inr (Or.inr (Or.inr (Or.inr (Or.inr (Or.inr (Or.inl rfl))))))))))))))))))))))))))), (fun q => by rcases q with q | q | q | q <;> exact absurd q (by decide)), hkb, hcn, hn, hco⟩
set_option maxRecDepth 100000 in
theorem iv_31 {n : Nat} {pc ac lk mq ma mb ir sw io dl ha rd md kf kb cn pf : Int32} {co ou : Nat → Int32} (I : Iv n (pc, ac, lk, mq, ma, mb, ir, sw, io, dl, ha, rd, 31, md, kf, kb, cn, pf, co, ou)) : Iv n (fin_ (mu31 (pc, ac, lk, mq, ma, mb, ir, sw, io, dl, ha, rd, 31, md, kf, kb, cn, pf, co, ou))).2 := by
  obtain ⟨⟨hpc, hac, hmq, hma, hmb, hir, hsw⟩, hlk, ⟨hio, hdl, hha, hrd, hkf, hpf⟩, hsn, hlt, hkb, hcn, hn, hco⟩ := I
  show Iv n (pc, (if ir &&& 64 = 0 then (if ir &&& 16 = 0 then ac else 0) else ((if ir &&& 16 = 0 then ac else 0) ||| mq)), lk, (if ir &&& 16 = 0 then mq else ac), ma, mb, ir, sw, io, dl, ha, rd, 0, (md + 1), kf, kb, cn, pf, co, ou)
  exact Iv_mk ⟨⟨hpc, (if_p (P := fun z => z &&& 4095 = z) (if_p (P := fun z => z &&& 4095 = z) hac wo_0) (wo_or (if_p (P := fun z => z &&& 4095 = z) hac wo_0) hmq)), (if_p (P := fun z => z &&& 4095 = z) hmq hac), hma, hmb, hir, hsw⟩, hlk, ⟨hio, hdl, hha, hrd, hkf, hpf⟩, Or.inl rfl, (fun q => by rcases q with q | q | q | q <;> exact absurd q (by decide)), hkb, hcn, hn, hco⟩
set_option maxRecDepth 100000 in
theorem iv_32 {n : Nat} {pc ac lk mq ma mb ir sw io dl ha rd md kf kb cn pf : Int32} {co ou : Nat → Int32} (I : Iv n (pc, ac, lk, mq, ma, mb, ir, sw, io, dl, ha, rd, 32, md, kf, kb, cn, pf, co, ou)) : Iv n (fin_ (mu32 (pc, ac, lk, mq, ma, mb, ir, sw, io, dl, ha, rd, 32, md, kf, kb, cn, pf, co, ou))).2 := by
  obtain ⟨⟨hpc, hac, hmq, hma, hmb, hir, hsw⟩, hlk, ⟨hio, hdl, hha, hrd, hkf, hpf⟩, hsn, hlt, hkb, hcn, hn, hco⟩ := I
  show Iv n (pc, ac, lk, mq, ma, mb, ir, sw, io, dl, ha, rd, if (ir / 8) &&& 63 = 0 then 33 else if (ir / 8) &&& 63 = 3 then 34 else if (ir / 8) &&& 63 = 4 then 36 else 0, (md + 1), kf, kb, cn, pf, co, ou)
  by_cases q1 : (ir / 8) &&& 63 = 0
  · rw [if_pos q1]
    exact Iv_mk ⟨⟨hpc, hac, hmq, hma, hmb, hir, hsw⟩, hlk, ⟨hio, hdl, hha, hrd, hkf, hpf⟩, Or.inr (Or.inr (Or.inr (Or.inr (Or.inr (Or.inr (Or.inr (Or.inr (Or.inr (Or.inr (Or.inr (Or.inr (Or.inr (Or.inr (Or.inr (Or.inr (Or.inr (Or.inr (Or.inr (Or.inr (Or.inr (Or.inr (Or.inr (Or.inr (Or.inr (Or.inr (Or.inr (Or.inr (Or.inr (Or.inl rfl))))))))))))))))))))))))))))), (fun q => by rcases q with q | q | q | q <;> exact absurd q (by decide)), hkb, hcn, hn, hco⟩
  · rw [if_neg q1]
    by_cases q2 : (ir / 8) &&& 63 = 3
    · rw [if_pos q2]
      exact Iv_mk ⟨⟨hpc, hac, hmq, hma, hmb, hir, hsw⟩, hlk, ⟨hio, hdl, hha, hrd, hkf, hpf⟩, Or.inr (Or.inr (Or.inr (Or.inr (Or.inr (Or.inr (Or.inr (Or.inr (Or.inr (Or.inr (Or.inr (Or.inr (Or.inr (Or.inr (Or.inr (Or.inr (Or.inr (Or.inr (Or.inr (Or.inr (Or.inr (Or.inr (Or.inr (Or.inr (Or.inr (Or.inr (Or.inr (Or.inr (Or.inr (Or.inr (Or.inl rfl)))))))))))))))))))))))))))))), (fun q => by rcases q with q | q | q | q <;> exact absurd q (by decide)), hkb, hcn, hn, hco⟩
    · rw [if_neg q2]
      by_cases q3 : (ir / 8) &&& 63 = 4
      · rw [if_pos q3]
        exact Iv_mk ⟨⟨hpc, hac, hmq, hma, hmb, hir, hsw⟩, hlk, ⟨hio, hdl, hha, hrd, hkf, hpf⟩, Or.inr (Or.inr (Or.inr (Or.inr (Or.inr (Or.inr (Or.inr (Or.inr (Or.inr (Or.inr (Or.inr (Or.inr (Or.inr (Or.inr (Or.inr (Or.inr (Or.inr (Or.inr (Or.inr (Or.inr (Or.inr (Or.inr (Or.inr (Or.inr (Or.inr (Or.inr (Or.inr (Or.inr (Or.inr (Or.inr (Or.inr (Or.inr (Or.inl rfl)))))))))))))))))))))))))))))))), (fun q => by rcases q with q | q | q | q <;> exact absurd q (by decide)), hkb, hcn, hn, hco⟩
      · rw [if_neg q3]
        exact Iv_mk ⟨⟨hpc, hac, hmq, hma, hmb, hir, hsw⟩, hlk, ⟨hio, hdl, hha, hrd, hkf, hpf⟩, Or.inl rfl, (fun q => by rcases q with q | q | q | q <;> exact absurd q (by decide)), hkb, hcn, hn, hco⟩
set_option maxRecDepth 100000 in
theorem iv_33 {n : Nat} {pc ac lk mq ma mb ir sw io dl ha rd md kf kb cn pf : Int32} {co ou : Nat → Int32} (I : Iv n (pc, ac, lk, mq, ma, mb, ir, sw, io, dl, ha, rd, 33, md, kf, kb, cn, pf, co, ou)) : Iv n (fin_ (mu33 (pc, ac, lk, mq, ma, mb, ir, sw, io, dl, ha, rd, 33, md, kf, kb, cn, pf, co, ou))).2 := by
  obtain ⟨⟨hpc, hac, hmq, hma, hmb, hir, hsw⟩, hlk, ⟨hio, hdl, hha, hrd, hkf, hpf⟩, hsn, hlt, hkb, hcn, hn, hco⟩ := I
  show Iv n (pc, ac, lk, mq, ma, mb, ir, sw, (if ir &&& 2 = 0 then (if ir &&& 1 = 0 then io else 1) else 0), (if ir &&& 1 = 0 then dl else 1), ha, rd, 0, (md + 1), kf, kb, cn, pf, co, ou)
  exact Iv_mk ⟨⟨hpc, hac, hmq, hma, hmb, hir, hsw⟩, hlk, ⟨(if_p (P := fun z => z = 0 ∨ z = 1) (if_p (P := fun z => z = 0 ∨ z = 1) hio (Or.inr rfl)) (Or.inl rfl)), (if_p (P := fun z => z = 0 ∨ z = 1) hdl (Or.inr rfl)), hha, hrd, hkf, hpf⟩, Or.inl rfl, (fun q => by rcases q with q | q | q | q <;> exact absurd q (by decide)), hkb, hcn, hn, hco⟩
set_option maxRecDepth 100000 in
theorem iv_34 {n : Nat} {pc ac lk mq ma mb ir sw io dl ha rd md kf kb cn pf : Int32} {co ou : Nat → Int32} (I : Iv n (pc, ac, lk, mq, ma, mb, ir, sw, io, dl, ha, rd, 34, md, kf, kb, cn, pf, co, ou)) : Iv n (fin_ (mu34 (pc, ac, lk, mq, ma, mb, ir, sw, io, dl, ha, rd, 34, md, kf, kb, cn, pf, co, ou))).2 := by
  obtain ⟨⟨hpc, hac, hmq, hma, hmb, hir, hsw⟩, hlk, ⟨hio, hdl, hha, hrd, hkf, hpf⟩, hsn, hlt, hkb, hcn, hn, hco⟩ := I
  show Iv n ((if ir &&& 1 = 0 ∨ kf = 0 then pc else ((pc + 1) &&& 4095)), (if ir &&& 2 = 0 then ac else 0), lk, mq, ma, mb, ir, sw, io, dl, ha, rd, (if ir &&& 4 = 0 then 0 else 35), (md + 1), (if ir &&& 2 = 0 then kf else 0), kb, cn, pf, co, ou)
  by_cases q1 : ir &&& 4 = 0
  · rw [if_pos q1]
    exact Iv_mk ⟨⟨(if_p (P := fun z => z &&& 4095 = z) hpc (an_an _)), (if_p (P := fun z => z &&& 4095 = z) hac wo_0), hmq, hma, hmb, hir, hsw⟩, hlk, ⟨hio, hdl, hha, hrd, (if_p (P := fun z => z = 0 ∨ z = 1) hkf (Or.inl rfl)), hpf⟩, Or.inl rfl, (fun q => by rcases q with q | q | q | q <;> exact absurd q (by decide)), hkb, hcn, hn, hco⟩
  · rw [if_neg q1]
    exact Iv_mk ⟨⟨(if_p (P := fun z => z &&& 4095 = z) hpc (an_an _)), (if_p (P := fun z => z &&& 4095 = z) hac wo_0), hmq, hma, hmb, hir, hsw⟩, hlk, ⟨hio, hdl, hha, hrd, (if_p (P := fun z => z = 0 ∨ z = 1) hkf (Or.inl rfl)), hpf⟩, Or.inr (Or.inr (Or.inr (Or.inr (Or.inr (Or.inr (Or.inr (Or.inr (Or.inr (Or.inr (Or.inr (Or.inr (Or.inr (Or.inr (Or.inr (Or.inr (Or.inr (Or.inr (Or.inr (Or.inr (Or.inr (Or.inr (Or.inr (Or.inr (Or.inr (Or.inr (Or.inr (Or.inr (Or.inr (Or.inr (Or.inr (Or.inl rfl))))))))))))))))))))))))))))))), (fun q => by rcases q with q | q | q | q <;> exact absurd q (by decide)), hkb, hcn, hn, hco⟩
set_option maxRecDepth 100000 in
theorem iv_35 {n : Nat} {pc ac lk mq ma mb ir sw io dl ha rd md kf kb cn pf : Int32} {co ou : Nat → Int32} (I : Iv n (pc, ac, lk, mq, ma, mb, ir, sw, io, dl, ha, rd, 35, md, kf, kb, cn, pf, co, ou)) : Iv n (fin_ (mu35 (pc, ac, lk, mq, ma, mb, ir, sw, io, dl, ha, rd, 35, md, kf, kb, cn, pf, co, ou))).2 := by
  obtain ⟨⟨hpc, hac, hmq, hma, hmb, hir, hsw⟩, hlk, ⟨hio, hdl, hha, hrd, hkf, hpf⟩, hsn, hlt, hkb, hcn, hn, hco⟩ := I
  show Iv n (pc, (ac ||| kb), lk, mq, ma, mb, ir, sw, io, dl, ha, rd, 0, (md + 1), kf, kb, cn, pf, co, ou)
  exact Iv_mk ⟨⟨hpc, (wo_or hac (wo_kb hkb)), hmq, hma, hmb, hir, hsw⟩, hlk, ⟨hio, hdl, hha, hrd, hkf, hpf⟩, Or.inl rfl, (fun q => by rcases q with q | q | q | q <;> exact absurd q (by decide)), hkb, hcn, hn, hco⟩
set_option maxRecDepth 100000 in
theorem iv_36 {n : Nat} {pc ac lk mq ma mb ir sw io dl ha rd md kf kb cn pf : Int32} {co ou : Nat → Int32} (I : Iv n (pc, ac, lk, mq, ma, mb, ir, sw, io, dl, ha, rd, 36, md, kf, kb, cn, pf, co, ou)) : Iv n (fin_ (mu36 (pc, ac, lk, mq, ma, mb, ir, sw, io, dl, ha, rd, 36, md, kf, kb, cn, pf, co, ou))).2 := by
  obtain ⟨⟨hpc, hac, hmq, hma, hmb, hir, hsw⟩, hlk, ⟨hio, hdl, hha, hrd, hkf, hpf⟩, hsn, hlt, hkb, hcn, hn, hco⟩ := I
  show Iv n ((if ir &&& 1 = 0 ∨ pf = 0 then pc else ((pc + 1) &&& 4095)), ac, lk, mq, ma, mb, ir, sw, io, dl, ha, rd, (if ir &&& 4 = 0 then 0 else 37), (md + 1), kf, kb, cn, (if ir &&& 2 = 0 then pf else 0), co, ou)
  by_cases q1 : ir &&& 4 = 0
  · rw [if_pos q1]
    exact Iv_mk ⟨⟨(if_p (P := fun z => z &&& 4095 = z) hpc (an_an _)), hac, hmq, hma, hmb, hir, hsw⟩, hlk, ⟨hio, hdl, hha, hrd, hkf, (if_p (P := fun z => z = 0 ∨ z = 1) hpf (Or.inl rfl))⟩, Or.inl rfl, (fun q => by rcases q with q | q | q | q <;> exact absurd q (by decide)), hkb, hcn, hn, hco⟩
  · rw [if_neg q1]
    exact Iv_mk ⟨⟨(if_p (P := fun z => z &&& 4095 = z) hpc (an_an _)), hac, hmq, hma, hmb, hir, hsw⟩, hlk, ⟨hio, hdl, hha, hrd, hkf, (if_p (P := fun z => z = 0 ∨ z = 1) hpf (Or.inl rfl))⟩, Or.inr (Or.inr (Or.inr (Or.inr (Or.inr (Or.inr (Or.inr (Or.inr (Or.inr (Or.inr (Or.inr (Or.inr (Or.inr (Or.inr (Or.inr (Or.inr (Or.inr (Or.inr (Or.inr (Or.inr (Or.inr (Or.inr (Or.inr (Or.inr (Or.inr (Or.inr (Or.inr (Or.inr (Or.inr (Or.inr (Or.inr (Or.inr (Or.inr (Or.inl rfl))))))))))))))))))))))))))))))))), (fun q => by rcases q with q | q | q | q <;> exact absurd q (by decide)), hkb, hcn, hn, hco⟩
set_option maxRecDepth 100000 in
theorem iv_37 {n : Nat} {pc ac lk mq ma mb ir sw io dl ha rd md kf kb cn pf : Int32} {co ou : Nat → Int32} (I : Iv n (pc, ac, lk, mq, ma, mb, ir, sw, io, dl, ha, rd, 37, md, kf, kb, cn, pf, co, ou)) (h37 : cn < nI n) : Iv n (fin_ (mu37 (pc, ac, lk, mq, ma, mb, ir, sw, io, dl, ha, rd, 37, md, kf, kb, cn, pf, co, ou))).2 := by
  obtain ⟨⟨hpc, hac, hmq, hma, hmb, hir, hsw⟩, hlk, ⟨hio, hdl, hha, hrd, hkf, hpf⟩, hsn, hlt, hkb, hcn, hn, hco⟩ := I
  show Iv n (pc, ac, lk, mq, ma, mb, ir, sw, io, dl, ha, rd, 0, (md + 1), kf, kb, (cn + 1), 1, co, (upd ou cn.toNatClampNeg (ac &&& 255)))
  exact Iv_mk ⟨⟨hpc, hac, hmq, hma, hmb, hir, hsw⟩, hlk, ⟨hio, hdl, hha, hrd, hkf, (Or.inr rfl)⟩, Or.inl rfl, (fun q => by rcases q with q | q | q | q <;> exact absurd q (by decide)), hkb, (cn_up hn hcn h37), hn, hco⟩
set_option maxRecDepth 100000 in
theorem iv_40 {n : Nat} {pc ac lk mq ma mb ir sw io dl ha rd md kf kb cn pf : Int32} {co ou : Nat → Int32} (I : Iv n (pc, ac, lk, mq, ma, mb, ir, sw, io, dl, ha, rd, 40, md, kf, kb, cn, pf, co, ou)) : Iv n (fin_ (mu40 (pc, ac, lk, mq, ma, mb, ir, sw, io, dl, ha, rd, 40, md, kf, kb, cn, pf, co, ou))).2 := by
  obtain ⟨⟨hpc, hac, hmq, hma, hmb, hir, hsw⟩, hlk, ⟨hio, hdl, hha, hrd, hkf, hpf⟩, hsn, hlt, hkb, hcn, hn, hco⟩ := I
  show Iv n (pc, ac, lk, mq, 0, pc, ir, sw, 0, dl, ha, rd, 41, (md + 1), kf, kb, cn, pf, co, ou)
  exact Iv_mk ⟨⟨hpc, hac, hmq, wo_0, hpc, hir, hsw⟩, hlk, ⟨(Or.inl rfl), hdl, hha, hrd, hkf, hpf⟩, Or.inr (Or.inr (Or.inr (Or.inr (Or.inr (Or.inr (Or.inr (Or.inr (Or.inr (Or.inr (Or.inr (Or.inr (Or.inr (Or.inr (Or.inr (Or.inr (Or.inr (Or.inr (Or.inr (Or.inr (Or.inr (Or.inr (Or.inr (Or.inr (Or.inr (Or.inr (Or.inr (Or.inr (Or.inr (Or.inr (Or.inr (Or.inr (Or.inr (Or.inr (Or.inr (rfl))))))))))))))))))))))))))))))))))), (fun q => by rcases q with q | q | q | q <;> exact absurd q (by decide)), hkb, hcn, hn, hco⟩
set_option maxRecDepth 100000 in
theorem iv_41 {n : Nat} {pc ac lk mq ma mb ir sw io dl ha rd md kf kb cn pf : Int32} {co ou : Nat → Int32} (I : Iv n (pc, ac, lk, mq, ma, mb, ir, sw, io, dl, ha, rd, 41, md, kf, kb, cn, pf, co, ou)) : Iv n (fin_ (mu41 (pc, ac, lk, mq, ma, mb, ir, sw, io, dl, ha, rd, 41, md, kf, kb, cn, pf, co, ou))).2 := by
  obtain ⟨⟨hpc, hac, hmq, hma, hmb, hir, hsw⟩, hlk, ⟨hio, hdl, hha, hrd, hkf, hpf⟩, hsn, hlt, hkb, hcn, hn, hco⟩ := I
  show Iv n (((ma + 1) &&& 4095), ac, lk, mq, ma, mb, ir, sw, io, dl, ha, rd, 0, (md + 1), kf, kb, cn, pf, (upd co (ma &&& 4095).toNatClampNeg (mb &&& 4095)), ou)
  exact Iv_mk ⟨⟨(an_an _), hac, hmq, hma, hmb, hir, hsw⟩, hlk, ⟨hio, hdl, hha, hrd, hkf, hpf⟩, Or.inl rfl, (fun q => by rcases q with q | q | q | q <;> exact absurd q (by decide)), hkb, hcn, hn, (wo_up hco _ (an_an _))⟩
