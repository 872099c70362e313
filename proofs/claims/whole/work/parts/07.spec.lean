theorem in_4096 (x : Int32) : vp_in (x &&& 4095) 4096 := pk_andIn x 12 (by decide +kernel) (by decide)
theorem in_w {x : Int32} (h : x &&& 4095 = x) : vp_in x 4096 := by
  have := in_4096 x
  rwa [h] at this
theorem an_an (x : Int32) : (x &&& 4095) &&& 4095 = x &&& 4095 := by
  rw [Int32.and_assoc]
  rfl
theorem nI_4096 : nI 4096 = 4096 := by decide +kernel
theorem ad_j {x : Int32} (h0 : ¬ x < 0) (h1 : ¬ 4096 ≤ x) : ∃ j : Nat, j < 4096 ∧ x = nI j := by
  rcases pk_ix x (n := 4096) (by decide) with h | h | h
  · exact absurd h h0
  · exact absurd (nI_4096 ▸ h) h1
  · exact h
theorem ad_w {x : Int32} (h0 : ¬ x < 0) (h1 : ¬ 4096 ≤ x) : x &&& 4095 = x := by
  obtain ⟨j, hj, rfl⟩ := ad_j h0 h1
  rw [pk_andN (by omega) 12 (by decide +kernel)]
  rw [Nat.mod_eq_of_lt (by simpa using hj)]
theorem in_a {x : Int32} (h0 : ¬ x < 0) (h1 : ¬ 4096 ≤ x) : vp_in x 4096 := in_w (ad_w h0 h1)
theorem cn_in {x : Int32} {n : Nat} (hn : n ≤ 100) (h : ∃ k : Nat, k ≤ n ∧ x = nI k) (hl : x < nI n) : vp_in x n := by
  obtain ⟨k, hk, rfl⟩ := h
  exact vp_in_nI ((nI_ltI (by omega) (by omega)).mp hl) (by omega)
theorem by_in {x y : Int32} {n : Nat} (hn : n ≤ 100) (h : ∃ k : Nat, k ≤ n ∧ y = nI k) (h0 : ¬ x < 0) (h1 : ¬ y ≤ x) : vp_in x n := by
  obtain ⟨k, hk, rfl⟩ := h
  obtain ⟨j, hj, rfl⟩ := nI_of h0
  have : ¬ k ≤ j := fun q => h1 ((nI_leI (by omega) hj).mpr q)
  exact vp_in_nI (by omega) (by omega)
theorem in_up {x : Int32} {n m : Nat} (h : vp_in x n) (hm : n ≤ m) : vp_in x m := fun q => h (by
  rcases q with q | q
  · exact Or.inl q
  · exact Or.inr (by omega))
section Dm
variable {p : Program} {l : Launch} {e : Env} {R : Room} {s : State} {m : MethodId} {args : Array Value} {below : List Frame} {meth : Method} {c : Code} {H : Heap} {locs : List Loc} {cells slots : Nat} {Q : State → Prop}
variable {cc : ByteArray} {i : Nat} {ls : Array Slot} {rest : List Value}
theorem dm_eq (hx : p.tables.exec = Jvm.exec) (hb : c.code = cc) {x a b : Int32} {off off2 : Int} {tgt g j : Nat} (d1 : decode cc i = .ok (.ifCond .eq off, 3)) (h1 : (i : Int) + off = (tgt : Int))
    (ka : W p l e R s m args below meth c H locs cells slots Q (F0 m g ls (.int a :: rest)) → W p l e R s m args below meth c H locs cells slots Q (F0 m (i + 3) ls rest)) (d2 : decode cc g = .ok (.goto off2, 3)) (h2 : (g : Int) + off2 = (j : Int))
    (kb : W p l e R s m args below meth c H locs cells slots Q (F0 m j ls (.int b :: rest)) → W p l e R s m args below meth c H locs cells slots Q (F0 m tgt ls rest))
    (k : W p l e R s m args below meth c H locs cells slots Q (F0 m j ls (.int (if x = 0 then b else a) :: rest))) : W p l e R s m args below meth c H locs cells slots Q (F0 m i ls (.int x :: rest)) := by
  refine lv_if_eq hx hb d1 h1 (fun q => kb ?_) (fun q => ka (lv_goto hx hb d2 h2 ?_))
  · rw [if_pos q] at k; exact k
  · rw [if_neg q] at k; exact k
end Dm
theorem cn_lt {cn : Int32} {n : Nat} (hn : n ≤ 100) (h : ∃ k : Nat, k ≤ n ∧ cn = nI k) (hne : ¬ cn = nI n) : cn < nI n := by
  obtain ⟨k, hk, rfl⟩ := h
  have : k ≠ n := fun q => hne (by rw [q])
  exact (nI_ltI (by omega) (by omega)).mpr (by omega)
theorem cn_ge {cn : Int32} {n : Nat} (h : cn = nI n) : ¬ cn < nI n := by
  rw [h]
  exact Int32.lt_irrefl
def r1_ (ir g : Int32) : Int32 := if ir &&& 8 = 0 then g else ((g >>> ((1 : Int32) &&& 31)) ||| ((g &&& 1) <<< ((12 : Int32) &&& 31)))
def r2_ (ir g : Int32) : Int32 := if ir &&& 4 = 0 then g else (((g <<< ((1 : Int32) &&& 31)) ||| (g >>> ((12 : Int32) &&& 31))) &&& 8191)
def rg_ (lk ac ir : Int32) : Int32 := r2_ ir (r1_ ir ((lk <<< ((12 : Int32) &&& 31)) ||| ac))

def mu0 : St → Int32 × St := fun (pc, ac, lk, mq, ma, mb, ir, sw, io, dl, ha, rd, sn, md, kf, kb, cn, pf, co, ou) =>
  if io = 0 ∨ ¬ dl = 0 ∨ (kf = 0 ∧ pf = 0) then (1, (((pc + 1) &&& 4095), ac, lk, mq, pc, mb, ir, sw, io, 0, ha, rd, sn, md, kf, kb, cn, pf, co, ou)) else (40, (pc, ac, lk, mq, ma, mb, ir, sw, io, dl, ha, rd, sn, md, kf, kb, cn, pf, co, ou))
def mu1 : St → Int32 × St := fun (pc, ac, lk, mq, ma, mb, ir, sw, io, dl, ha, rd, sn, md, kf, kb, cn, pf, co, ou) =>
  (if (co (ma &&& 4095).toNatClampNeg) < 3584 then (if (co (ma &&& 4095).toNatClampNeg) < 3072 then 2 else 32) else 20, (pc, ac, lk, mq, ma, (co (ma &&& 4095).toNatClampNeg), (co (ma &&& 4095).toNatClampNeg), sw, io, dl, ha, rd, sn, md, kf, kb, cn, pf, co, ou))
def mu2 : St → Int32 × St := fun (pc, ac, lk, mq, ma, mb, ir, sw, io, dl, ha, rd, sn, md, kf, kb, cn, pf, co, ou) =>
  ((if ir &&& 256 = 0 then 8 + ir / 512 else 3), (pc, ac, lk, mq, ((if ir &&& 128 = 0 then 0 else (ma &&& 3968)) + (ir &&& 127)), mb, ir, sw, io, dl, ha, rd, sn, md, kf, kb, cn, pf, co, ou))
def mu3 : St → Int32 × St := fun (pc, ac, lk, mq, ma, mb, ir, sw, io, dl, ha, rd, sn, md, kf, kb, cn, pf, co, ou) =>
  (if ma < 8 ∨ 15 < ma then 5 else 4, (pc, ac, lk, mq, ma, (co (ma &&& 4095).toNatClampNeg), ir, sw, io, dl, ha, rd, sn, md, kf, kb, cn, pf, co, ou))
def mu4 : St → Int32 × St := fun (pc, ac, lk, mq, ma, mb, ir, sw, io, dl, ha, rd, sn, md, kf, kb, cn, pf, co, ou) =>
  (5, (pc, ac, lk, mq, ma, ((mb + 1) &&& 4095), ir, sw, io, dl, ha, rd, sn, md, kf, kb, cn, pf, (upd co (ma &&& 4095).toNatClampNeg (((mb + 1) &&& 4095) &&& 4095)), ou))
def mu5 : St → Int32 × St := fun (pc, ac, lk, mq, ma, mb, ir, sw, io, dl, ha, rd, sn, md, kf, kb, cn, pf, co, ou) =>
  (8 + ir / 512, (pc, ac, lk, mq, mb, mb, ir, sw, io, dl, ha, rd, sn, md, kf, kb, cn, pf, co, ou))
def mu8 : St → Int32 × St := fun (pc, ac, lk, mq, ma, mb, ir, sw, io, dl, ha, rd, sn, md, kf, kb, cn, pf, co, ou) =>
  (16, (pc, ac, lk, mq, ma, (co (ma &&& 4095).toNatClampNeg), ir, sw, io, dl, ha, rd, sn, md, kf, kb, cn, pf, co, ou))
def mu9 : St → Int32 × St := fun (pc, ac, lk, mq, ma, mb, ir, sw, io, dl, ha, rd, sn, md, kf, kb, cn, pf, co, ou) =>
  (17, (pc, ac, lk, mq, ma, (co (ma &&& 4095).toNatClampNeg), ir, sw, io, dl, ha, rd, sn, md, kf, kb, cn, pf, co, ou))
def mu10 : St → Int32 × St := fun (pc, ac, lk, mq, ma, mb, ir, sw, io, dl, ha, rd, sn, md, kf, kb, cn, pf, co, ou) =>
  (18, (pc, ac, lk, mq, ma, (((co (ma &&& 4095).toNatClampNeg) + 1) &&& 4095), ir, sw, io, dl, ha, rd, sn, md, kf, kb, cn, pf, co, ou))
def mu11 : St → Int32 × St := fun (pc, ac, lk, mq, ma, mb, ir, sw, io, dl, ha, rd, sn, md, kf, kb, cn, pf, co, ou) =>
  (19, (pc, ac, lk, mq, ma, ac, ir, sw, io, dl, ha, rd, sn, md, kf, kb, cn, pf, co, ou))
def mu12 : St → Int32 × St := fun (pc, ac, lk, mq, ma, mb, ir, sw, io, dl, ha, rd, sn, md, kf, kb, cn, pf, co, ou) =>
  (15, (pc, ac, lk, mq, ma, pc, ir, sw, io, dl, ha, rd, sn, md, kf, kb, cn, pf, co, ou))
def mu13 : St → Int32 × St := fun (pc, ac, lk, mq, ma, mb, ir, sw, io, dl, ha, rd, sn, md, kf, kb, cn, pf, co, ou) =>
  (0, (ma, ac, lk, mq, ma, mb, ir, sw, io, dl, ha, rd, sn, md, kf, kb, cn, pf, co, ou))
def mu15 : St → Int32 × St := fun (pc, ac, lk, mq, ma, mb, ir, sw, io, dl, ha, rd, sn, md, kf, kb, cn, pf, co, ou) =>
  (0, (((ma + 1) &&& 4095), ac, lk, mq, ma, mb, ir, sw, io, dl, ha, rd, sn, md, kf, kb, cn, pf, (upd co (ma &&& 4095).toNatClampNeg (mb &&& 4095)), ou))
def mu16 : St → Int32 × St := fun (pc, ac, lk, mq, ma, mb, ir, sw, io, dl, ha, rd, sn, md, kf, kb, cn, pf, co, ou) =>
  (0, (pc, (ac &&& mb), lk, mq, ma, mb, ir, sw, io, dl, ha, rd, sn, md, kf, kb, cn, pf, co, ou))
def mu17 : St → Int32 × St := fun (pc, ac, lk, mq, ma, mb, ir, sw, io, dl, ha, rd, sn, md, kf, kb, cn, pf, co, ou) =>
  (0, (pc, ((ac + mb) &&& 4095), (if ac + mb ≤ 4095 then lk else 1 - lk), mq, ma, mb, ir, sw, io, dl, ha, rd, sn, md, kf, kb, cn, pf, co, ou))
def mu18 : St → Int32 × St := fun (pc, ac, lk, mq, ma, mb, ir, sw, io, dl, ha, rd, sn, md, kf, kb, cn, pf, co, ou) =>
  (0, ((if mb = 0 then ((pc + 1) &&& 4095) else pc), ac, lk, mq, ma, mb, ir, sw, io, dl, ha, rd, sn, md, kf, kb, cn, pf, (upd co (ma &&& 4095).toNatClampNeg (mb &&& 4095)), ou))
def mu19 : St → Int32 × St := fun (pc, ac, lk, mq, ma, mb, ir, sw, io, dl, ha, rd, sn, md, kf, kb, cn, pf, co, ou) =>
  (0, (pc, 0, lk, mq, ma, mb, ir, sw, io, dl, ha, rd, sn, md, kf, kb, cn, pf, (upd co (ma &&& 4095).toNatClampNeg (mb &&& 4095)), ou))
def mu20 : St → Int32 × St := fun (pc, ac, lk, mq, ma, mb, ir, sw, io, dl, ha, rd, sn, md, kf, kb, cn, pf, co, ou) =>
  ((if ir &&& 256 = 0 then 21 else (if ir &&& 1 = 0 then 26 else 30)), (pc, ac, lk, mq, ma, mb, ir, sw, io, dl, ha, rd, sn, md, kf, kb, cn, pf, co, ou))
def mu21 : St → Int32 × St := fun (pc, ac, lk, mq, ma, mb, ir, sw, io, dl, ha, rd, sn, md, kf, kb, cn, pf, co, ou) =>
  (22, (pc, (if ir &&& 128 = 0 then ac else 0), (if ir &&& 64 = 0 then lk else 0), mq, ma, mb, ir, sw, io, dl, ha, rd, sn, md, kf, kb, cn, pf, co, ou))
def mu22 : St → Int32 × St := fun (pc, ac, lk, mq, ma, mb, ir, sw, io, dl, ha, rd, sn, md, kf, kb, cn, pf, co, ou) =>
  (23, (pc, (if ir &&& 32 = 0 then ac else (4095 - ac)), (if ir &&& 16 = 0 then lk else (1 - lk)), mq, ma, mb, ir, sw, io, dl, ha, rd, sn, md, kf, kb, cn, pf, co, ou))
def mu23 : St → Int32 × St := fun (pc, ac, lk, mq, ma, mb, ir, sw, io, dl, ha, rd, sn, md, kf, kb, cn, pf, co, ou) =>
  ((if ir &&& 12 = 0 then 0 else 24), if ir &&& 1 = 0 then (pc, ac, lk, mq, ma, mb, ir, sw, io, dl, ha, rd, sn, md, kf, kb, cn, pf, co, ou) else (pc, ((ac + 1) &&& 4095), (if ac + 1 ≤ 4095 then lk else 1 - lk), mq, ma, mb, ir, sw, io, dl, ha, rd, sn, md, kf, kb, cn, pf, co, ou))
def mu24 : St → Int32 × St := fun (pc, ac, lk, mq, ma, mb, ir, sw, io, dl, ha, rd, sn, md, kf, kb, cn, pf, co, ou) =>
  ((if ir &&& 2 = 0 then 0 else 25), (pc, (rg_ lk ac ir &&& 4095), (rg_ lk ac ir >>> ((12 : Int32) &&& 31)), mq, ma, mb, ir, sw, io, dl, ha, rd, sn, md, kf, kb, cn, pf, co, ou))
def mu25 : St → Int32 × St := fun (pc, ac, lk, mq, ma, mb, ir, sw, io, dl, ha, rd, sn, md, kf, kb, cn, pf, co, ou) =>
  (0, (pc, (rg_ lk ac ir &&& 4095), (rg_ lk ac ir >>> ((12 : Int32) &&& 31)), mq, ma, mb, ir, sw, io, dl, ha, rd, sn, md, kf, kb, cn, pf, co, ou))
def mu26 : St → Int32 × St := fun (pc, ac, lk, mq, ma, mb, ir, sw, io, dl, ha, rd, sn, md, kf, kb, cn, pf, co, ou) =>
  (27, ((if ((¬ ir &&& 64 = 0 ∧ ¬ ac < 2048) ∨ (¬ ir &&& 32 = 0 ∧ ac = 0) ∨ (¬ ir &&& 16 = 0 ∧ lk = 1)) ↔ ¬ ir &&& 8 = 0 then pc else ((pc + 1) &&& 4095)), ac, lk, mq, ma, mb, ir, sw, io, dl, ha, rd, sn, md, kf, kb, cn, pf, co, ou))
def mu27 : St → Int32 × St := fun (pc, ac, lk, mq, ma, mb, ir, sw, io, dl, ha, rd, sn, md, kf, kb, cn, pf, co, ou) =>
  ((if ir &&& 6 = 0 then 0 else 28), (pc, (if ir &&& 128 = 0 then ac else 0), lk, mq, ma, mb, ir, sw, io, dl, ha, rd, sn, md, kf, kb, cn, pf, co, ou))
def mu28 : St → Int32 × St := fun (pc, ac, lk, mq, ma, mb, ir, sw, io, dl, ha, rd, sn, md, kf, kb, cn, pf, co, ou) =>
  (0, (pc, (if ir &&& 4 = 0 then ac else (ac ||| sw)), lk, mq, ma, mb, ir, sw, io, dl, (if ir &&& 2 = 0 then ha else 1), rd, sn, md, kf, kb, cn, pf, co, ou))
def mu30 : St → Int32 × St := fun (pc, ac, lk, mq, ma, mb, ir, sw, io, dl, ha, rd, sn, md, kf, kb, cn, pf, co, ou) =>
  (31, (pc, (if ir &&& 128 = 0 then ac else 0), lk, mq, ma, mb, ir, sw, io, dl, ha, rd, sn, md, kf, kb, cn, pf, co, ou))
def mu31 : St → Int32 × St := fun (pc, ac, lk, mq, ma, mb, ir, sw, io, dl, ha, rd, sn, md, kf, kb, cn, pf, co, ou) =>
  (0, (pc, (if ir &&& 64 = 0 then (if ir &&& 16 = 0 then ac else 0) else ((if ir &&& 16 = 0 then ac else 0) ||| mq)), lk, (if ir &&& 16 = 0 then mq else ac), ma, mb, ir, sw, io, dl, ha, rd, sn, md, kf, kb, cn, pf, co, ou))
def mu32 : St → Int32 × St := fun (pc, ac, lk, mq, ma, mb, ir, sw, io, dl, ha, rd, sn, md, kf, kb, cn, pf, co, ou) =>
  (if (ir / 8) &&& 63 = 0 then 33 else if (ir / 8) &&& 63 = 3 then 34 else if (ir / 8) &&& 63 = 4 then 36 else 0, (pc, ac, lk, mq, ma, mb, ir, sw, io, dl, ha, rd, sn, md, kf, kb, cn, pf, co, ou))
def mu33 : St → Int32 × St := fun (pc, ac, lk, mq, ma, mb, ir, sw, io, dl, ha, rd, sn, md, kf, kb, cn, pf, co, ou) =>
  (0, (pc, ac, lk, mq, ma, mb, ir, sw, (if ir &&& 2 = 0 then (if ir &&& 1 = 0 then io else 1) else 0), (if ir &&& 1 = 0 then dl else 1), ha, rd, sn, md, kf, kb, cn, pf, co, ou))
def mu34 : St → Int32 × St := fun (pc, ac, lk, mq, ma, mb, ir, sw, io, dl, ha, rd, sn, md, kf, kb, cn, pf, co, ou) =>
  ((if ir &&& 4 = 0 then 0 else 35), ((if ir &&& 1 = 0 ∨ kf = 0 then pc else ((pc + 1) &&& 4095)), (if ir &&& 2 = 0 then ac else 0), lk, mq, ma, mb, ir, sw, io, dl, ha, rd, sn, md, (if ir &&& 2 = 0 then kf else 0), kb, cn, pf, co, ou))
def mu35 : St → Int32 × St := fun (pc, ac, lk, mq, ma, mb, ir, sw, io, dl, ha, rd, sn, md, kf, kb, cn, pf, co, ou) =>
  (0, (pc, (ac ||| kb), lk, mq, ma, mb, ir, sw, io, dl, ha, rd, sn, md, kf, kb, cn, pf, co, ou))
def mu36 : St → Int32 × St := fun (pc, ac, lk, mq, ma, mb, ir, sw, io, dl, ha, rd, sn, md, kf, kb, cn, pf, co, ou) =>
  ((if ir &&& 4 = 0 then 0 else 37), ((if ir &&& 1 = 0 ∨ pf = 0 then pc else ((pc + 1) &&& 4095)), ac, lk, mq, ma, mb, ir, sw, io, dl, ha, rd, sn, md, kf, kb, cn, (if ir &&& 2 = 0 then pf else 0), co, ou))
def mu37 : St → Int32 × St := fun (pc, ac, lk, mq, ma, mb, ir, sw, io, dl, ha, rd, sn, md, kf, kb, cn, pf, co, ou) =>
  (0, (pc, ac, lk, mq, ma, mb, ir, sw, io, dl, ha, rd, sn, md, kf, kb, (cn + 1), 1, co, (upd ou cn.toNatClampNeg (ac &&& 255))))
def mu40 : St → Int32 × St := fun (pc, ac, lk, mq, ma, mb, ir, sw, io, dl, ha, rd, sn, md, kf, kb, cn, pf, co, ou) =>
  (41, (pc, ac, lk, mq, 0, pc, ir, sw, 0, dl, ha, rd, sn, md, kf, kb, cn, pf, co, ou))
def mu41 : St → Int32 × St := fun (pc, ac, lk, mq, ma, mb, ir, sw, io, dl, ha, rd, sn, md, kf, kb, cn, pf, co, ou) =>
  (0, (((ma + 1) &&& 4095), ac, lk, mq, ma, mb, ir, sw, io, dl, ha, rd, sn, md, kf, kb, cn, pf, (upd co (ma &&& 4095).toNatClampNeg (mb &&& 4095)), ou))
/-- one microstep by its number: the next number, and the state -/
def mu (n : Int32) (u : St) : Int32 × St :=
  if n = 0 then mu0 u else if n = 1 then mu1 u else if n = 2 then mu2 u else if n = 3 then mu3 u else if n = 4 then mu4 u else if n = 5 then mu5 u else if n = 8 then mu8 u else if n = 9 then mu9 u else if n = 10 then mu10 u else if n = 11 then mu11 u else if n = 12 then mu12 u else if n = 13 then mu13 u else if n = 15 then mu15 u else if n = 16 then mu16 u else if n = 17 then mu17 u else if n = 18 then mu18 u else if n = 19 then mu19 u else if n = 20 then mu20 u else if n = 21 then mu21 u else if n = 22 then mu22 u else if n = 23 then mu23 u else if n = 24 then mu24 u else if n = 25 then mu25 u else if n = 26 then mu26 u else if n = 27 then mu27 u else if n = 28 then mu28 u else if n = 30 then mu30 u else if n = 31 then mu31 u else if n = 32 then mu32 u else if n = 33 then mu33 u else if n = 34 then mu34 u else if n = 35 then mu35 u else if n = 36 then mu36 u else if n = 37 then mu37 u else if n = 40 then mu40 u else if n = 41 then mu41 u else (0, u)
theorem mu_0 (u : St) : mu 0 u = mu0 u := rfl
theorem mu_1 (u : St) : mu 1 u = mu1 u := rfl
theorem mu_2 (u : St) : mu 2 u = mu2 u := rfl
theorem mu_3 (u : St) : mu 3 u = mu3 u := rfl
theorem mu_4 (u : St) : mu 4 u = mu4 u := rfl
theorem mu_5 (u : St) : mu 5 u = mu5 u := rfl
theorem mu_8 (u : St) : mu 8 u = mu8 u := rfl
theorem mu_9 (u : St) : mu 9 u = mu9 u := rfl
theorem mu_10 (u : St) : mu 10 u = mu10 u := rfl
theorem mu_11 (u : St) : mu 11 u = mu11 u := rfl
theorem mu_12 (u : St) : mu 12 u = mu12 u := rfl
theorem mu_13 (u : St) : mu 13 u = mu13 u := rfl
theorem mu_15 (u : St) : mu 15 u = mu15 u := rfl
theorem mu_16 (u : St) : mu 16 u = mu16 u := rfl
theorem mu_17 (u : St) : mu 17 u = mu17 u := rfl
theorem mu_18 (u : St) : mu 18 u = mu18 u := rfl
theorem mu_19 (u : St) : mu 19 u = mu19 u := rfl
theorem mu_20 (u : St) : mu 20 u = mu20 u := rfl
theorem mu_21 (u : St) : mu 21 u = mu21 u := rfl
theorem mu_22 (u : St) : mu 22 u = mu22 u := rfl
theorem mu_23 (u : St) : mu 23 u = mu23 u := rfl
theorem mu_24 (u : St) : mu 24 u = mu24 u := rfl
theorem mu_25 (u : St) : mu 25 u = mu25 u := rfl
theorem mu_26 (u : St) : mu 26 u = mu26 u := rfl
theorem mu_27 (u : St) : mu 27 u = mu27 u := rfl
theorem mu_28 (u : St) : mu 28 u = mu28 u := rfl
theorem mu_30 (u : St) : mu 30 u = mu30 u := rfl
theorem mu_31 (u : St) : mu 31 u = mu31 u := rfl
theorem mu_32 (u : St) : mu 32 u = mu32 u := rfl
theorem mu_33 (u : St) : mu 33 u = mu33 u := rfl
theorem mu_34 (u : St) : mu 34 u = mu34 u := rfl
theorem mu_35 (u : St) : mu 35 u = mu35 u := rfl
theorem mu_36 (u : St) : mu 36 u = mu36 u := rfl
theorem mu_37 (u : St) : mu 37 u = mu37 u := rfl
theorem mu_40 (u : St) : mu 40 u = mu40 u := rfl
theorem mu_41 (u : St) : mu 41 u = mu41 u := rfl
/-- what microStep does behind the microstep -/
def fin_ (q : Int32 × St) : Int32 × St := match q with
  | (r, (pc, ac, lk, mq, ma, mb, ir, sw, io, dl, ha, rd, sn, md, kf, kb, cn, pf, co, ou)) => (if r = 0 then 1 else 0, (pc, ac, lk, mq, ma, mb, ir, sw, io, dl, ha, rd, r, (md + 1), kf, kb, cn, pf, co, ou))
def ms (n : Nat) : St → Int32 × St := fun (pc, ac, lk, mq, ma, mb, ir, sw, io, dl, ha, rd, sn, md, kf, kb, cn, pf, co, ou) =>
  if rd = 0 then (3, (pc, ac, lk, mq, ma, mb, ir, sw, io, dl, ha, rd, sn, md, kf, kb, cn, pf, co, ou)) else if sn = 0 ∧ ¬ ha = 0 then (2, (pc, ac, lk, mq, ma, mb, ir, sw, io, dl, ha, rd, sn, md, kf, kb, cn, pf, co, ou)) else if sn = 37 ∧ ¬ cn < nI n then (4, (pc, ac, lk, mq, ma, mb, ir, sw, io, dl, ha, rd, sn, md, kf, kb, cn, pf, co, ou)) else fin_ (mu sn (pc, ac, lk, mq, ma, mb, ir, sw, io, dl, ha, rd, sn, md, kf, kb, cn, pf, co, ou))
theorem ms_go {n : Nat} {pc ac lk mq ma mb ir sw io dl ha rd sn md kf kb cn pf : Int32} {co ou : Nat → Int32} (h1 : ¬ rd = 0) (h2 : ¬ (sn = 0 ∧ ¬ ha = 0)) (h3 : ¬ (sn = 37 ∧ ¬ cn < nI n)) : ms n (pc, ac, lk, mq, ma, mb, ir, sw, io, dl, ha, rd, sn, md, kf, kb, cn, pf, co, ou) = fin_ (mu sn (pc, ac, lk, mq, ma, mb, ir, sw, io, dl, ha, rd, sn, md, kf, kb, cn, pf, co, ou)) := by
  show (if rd = 0 then _ else if sn = 0 ∧ ¬ ha = 0 then _ else if sn = 37 ∧ ¬ cn < nI n then _ else _) = _
  rw [if_neg h1, if_neg h2, if_neg h3]
theorem ms_4 {n : Nat} {pc ac lk mq ma mb ir sw io dl ha rd sn md kf kb cn pf : Int32} {co ou : Nat → Int32} (h1 : ¬ rd = 0) (h2 : ¬ (sn = 0 ∧ ¬ ha = 0)) (h3 : sn = 37 ∧ ¬ cn < nI n) : ms n (pc, ac, lk, mq, ma, mb, ir, sw, io, dl, ha, rd, sn, md, kf, kb, cn, pf, co, ou) = (4, (pc, ac, lk, mq, ma, mb, ir, sw, io, dl, ha, rd, sn, md, kf, kb, cn, pf, co, ou)) := by
  show (if rd = 0 then _ else if sn = 0 ∧ ¬ ha = 0 then _ else if sn = 37 ∧ ¬ cn < nI n then _ else _) = _
  rw [if_neg h1, if_neg h2, if_pos h3]
def Sn (sn : Int32) : Prop := sn = 0 ∨ sn = 1 ∨ sn = 2 ∨ sn = 3 ∨ sn = 4 ∨ sn = 5 ∨ sn = 8 ∨ sn = 9 ∨ sn = 10 ∨ sn = 11 ∨ sn = 12 ∨ sn = 13 ∨ sn = 15 ∨ sn = 16 ∨ sn = 17 ∨ sn = 18 ∨ sn = 19 ∨ sn = 20 ∨ sn = 21 ∨ sn = 22 ∨ sn = 23 ∨ sn = 24 ∨ sn = 25 ∨ sn = 26 ∨ sn = 27 ∨ sn = 28 ∨ sn = 30 ∨ sn = 31 ∨ sn = 32 ∨ sn = 33 ∨ sn = 34 ∨ sn = 35 ∨ sn = 36 ∨ sn = 37 ∨ sn = 40 ∨ sn = 41
def Iv (n : Nat) : St → Prop := fun (pc, ac, lk, mq, ma, mb, ir, sw, io, dl, ha, rd, sn, md, kf, kb, cn, pf, co, ou) =>
  (pc &&& 4095 = pc ∧ ac &&& 4095 = ac ∧ mq &&& 4095 = mq ∧ ma &&& 4095 = ma ∧ mb &&& 4095 = mb ∧ ir &&& 4095 = ir ∧ sw &&& 4095 = sw) ∧ (lk = 0 ∨ lk = 1) ∧ ((io = 0 ∨ io = 1) ∧ (dl = 0 ∨ dl = 1) ∧ (ha = 0 ∨ ha = 1) ∧ (rd = 0 ∨ rd = 1) ∧ (kf = 0 ∨ kf = 1) ∧ (pf = 0 ∨ pf = 1)) ∧ Sn sn ∧ (sn = 2 ∨ sn = 3 ∨ sn = 4 ∨ sn = 5 → ir < 3072) ∧ kb &&& 255 = kb ∧ (∃ k : Nat, k ≤ n ∧ cn = nI k) ∧ n ≤ 100 ∧ ∀ i, co i &&& 4095 = co i
theorem Iv_mk {n : Nat} {pc ac lk mq ma mb ir sw io dl ha rd sn md kf kb cn pf : Int32} {co ou : Nat → Int32} (h : (pc &&& 4095 = pc ∧ ac &&& 4095 = ac ∧ mq &&& 4095 = mq ∧ ma &&& 4095 = ma ∧ mb &&& 4095 = mb ∧ ir &&& 4095 = ir ∧ sw &&& 4095 = sw) ∧ (lk = 0 ∨ lk = 1) ∧ ((io = 0 ∨ io = 1) ∧ (dl = 0 ∨ dl = 1) ∧ (ha = 0 ∨ ha = 1) ∧ (rd = 0 ∨ rd = 1) ∧ (kf = 0 ∨ kf = 1) ∧ (pf = 0 ∨ pf = 1)) ∧ Sn sn ∧ (sn = 2 ∨ sn = 3 ∨ sn = 4 ∨ sn = 5 → ir < 3072) ∧ kb &&& 255 = kb ∧ (∃ k : Nat, k ≤ n ∧ cn = nI k) ∧ n ≤ 100 ∧ ∀ i, co i &&& 4095 = co i) : Iv n (pc, ac, lk, mq, ma, mb, ir, sw, io, dl, ha, rd, sn, md, kf, kb, cn, pf, co, ou) := h
