set_option maxHeartbeats 4000000 in
set_option maxRecDepth 100000 in
theorem lp_X_step {p : Program} {l : Launch} {e : Env} {s : State} {m : MethodId} {below : List Frame} {meth : Method} {c : Code} {A : Nat → Prop} {D : va_G} {a : AX} {args : Array Value} (S : CallFix p m c cX_step 3 s args wsA RX) (hr : meth.sig.returnType = some .int) (hk : meth.locks = false) (hA : ∀ q, s.heap.size ≤ q → A q) (hN : nw s) (hK : va_K D vwCl (tx a) s) (res : Int32 × St) : ∀ (k : Nat) (q : Int32 × St) (H : Heap) (locs : List Loc) (ls : Array Slot), k ≤ 63 → Iv a.2.2.2.2.2.2.2 q.2 → an_ (sp a.2.2.2.2.2.2.2 k q) = res → lv_has ls 3 [(2, .int (nI (64 - k))), (1, .int q.1), (0, .ref a.1)] → va_P D vwCl (wx a q.2) H → va_D A (wx a q.2) → va_S A s.heap H locs → W p l e (rmD 5) s m args below meth c H locs 0 0 (MQ below (va_Qi (fun r u => (r, u) = res) (BW D (wx a) (tx a) A) A) args s 0 0 A) (F0 m 7 ls []) := by
  intro k
  induction k with
  | zero =>
    intro q H locs ls hk9 I hres hl hP hD hS
    obtain ⟨r0, pc, ac, lk, mq, ma, mb, ir, sw, io, dl, ha, rd, sn, md, kf, kb, cn, pf, co, ou⟩ := q
    have I : Iv a.2.2.2.2.2.2.2 (pc, ac, lk, mq, ma, mb, ir, sw, io, dl, ha, rd, sn, md, kf, kb, cn, pf, co, ou) := I
    have hP : va_P D vwCl (wx a (pc, ac, lk, mq, ma, mb, ir, sw, io, dl, ha, rd, sn, md, kf, kb, cn, pf, co, ou)) H := hP
    have hD : va_D A (wx a (pc, ac, lk, mq, ma, mb, ir, sw, io, dl, ha, rd, sn, md, kf, kb, cn, pf, co, ou)) := hD
    obtain ⟨-, -, -, hsn, -, -, hcn, hn, -⟩ := id I
    have hl : lv_has ls 3 [(2, .int 64), (1, .int r0), (0, .ref a.1)] := hl
    refine lv_iload_n S.1 S.2.1 dX_step_7 rfl (lv_at hl 0 rfl) ?_
    refine lv_bipush (v := 64) S.1 S.2.1 dX_step_8 (by decide) ?_
    refine lv_icmp_ge (tgt := 28) S.1 S.2.1 dX_step_10 (by decide) (fun _ => ?_) (fun g1 => absurd (by decide) g1)
    refine lv_iload_n S.1 S.2.1 dX_step_28 rfl (lv_at hl 1 rfl) ?_
    refine lv_iconst (v := 1) S.1 S.2.1 dX_step_29 (by decide) ?_
    refine lv_icmp_ne (tgt := 37) S.1 S.2.1 dX_step_30 (by decide) (fun g2 => ?_) (fun g2 => ?_)
    · refine lv_iload_n S.1 S.2.1 dX_step_37 rfl (lv_at hl 1 rfl) ?_
      exact rt_i S hr hk hK hP hD hS ((by rw [← hres]; simp [sp, an_, g2])) dX_step_38
    · refine lv_iconst (v := 0) S.1 S.2.1 dX_step_33 (by decide) ?_
      refine lv_goto (tgt := 38) S.1 S.2.1 dX_step_34 (by decide) ?_
      exact rt_i S hr hk hK hP hD hS ((by rw [← hres]; simp [sp, an_, g2])) dX_step_38
  | succ k ih =>
    intro q H locs ls hk9 I hres hl hP hD hS
    obtain ⟨r0, pc, ac, lk, mq, ma, mb, ir, sw, io, dl, ha, rd, sn, md, kf, kb, cn, pf, co, ou⟩ := q
    have I : Iv a.2.2.2.2.2.2.2 (pc, ac, lk, mq, ma, mb, ir, sw, io, dl, ha, rd, sn, md, kf, kb, cn, pf, co, ou) := I
    have hP : va_P D vwCl (wx a (pc, ac, lk, mq, ma, mb, ir, sw, io, dl, ha, rd, sn, md, kf, kb, cn, pf, co, ou)) H := hP
    have hD : va_D A (wx a (pc, ac, lk, mq, ma, mb, ir, sw, io, dl, ha, rd, sn, md, kf, kb, cn, pf, co, ou)) := hD
    obtain ⟨-, -, -, hsn, -, -, hcn, hn, -⟩ := id I
    have hl : lv_has ls 3 [(2, .int (nI (64 - (k + 1)))), (1, .int r0), (0, .ref a.1)] := hl
    have h64 : ¬ 64 ≤ (nI (64 - (k + 1))) := i64 (by omega)
    refine lv_iload_n S.1 S.2.1 dX_step_7 rfl (lv_at hl 0 rfl) ?_
    refine lv_bipush (v := 64) S.1 S.2.1 dX_step_8 (by decide) ?_
    refine lv_icmp_ge (tgt := 28) S.1 S.2.1 dX_step_10 (by decide) (fun g1 => absurd g1 h64) (fun _ => ?_)
    refine lv_iload_n S.1 S.2.1 dX_step_13 rfl (lv_at hl 1 rfl) ?_
    refine lv_if_ne (tgt := 28) S.1 S.2.1 dX_step_14 (by decide) (fun g2 => ?_) (fun g2 => ?_)
    · refine lv_iload_n S.1 S.2.1 dX_step_28 rfl (lv_at hl 1 rfl) ?_
      refine lv_iconst (v := 1) S.1 S.2.1 dX_step_29 (by decide) ?_
      refine lv_icmp_ne (tgt := 37) S.1 S.2.1 dX_step_30 (by decide) (fun g3 => ?_) (fun g3 => ?_)
      · refine lv_iload_n S.1 S.2.1 dX_step_37 rfl (lv_at hl 1 rfl) ?_
        exact rt_i S hr hk hK hP hD hS ((by rw [← hres, sp_x g2]; simp [an_, g3])) dX_step_38
      · refine lv_iconst (v := 0) S.1 S.2.1 dX_step_33 (by decide) ?_
        refine lv_goto (tgt := 38) S.1 S.2.1 dX_step_34 (by decide) ?_
        exact rt_i S hr hk hK hP hD hS ((by rw [← hres, sp_x g2]; simp [an_, g3])) dX_step_38
    · refine lv_aload_n S.1 S.2.1 dX_step_17 rfl (lv_at hl 2 rfl) ?_
      refine cl_i (As := []) (rest := []) S hN hK hP hD hS hA hl.1 (c_X_microStep l D a _ pc ac lk mq ma mb ir sw io dl ha rd sn md kf kb cn pf co ou hsn hn hcn) k_X_108 (rc_X hK hP) ⟨by decide, by decide⟩ rfl rfl (Nat.le_of_ble_eq_true rfl) ⟨Nat.le_refl _, Nat.le_refl _⟩ dX_step_18 (fun r u H locs hw hP hD hS => ?_)
      obtain ⟨pc1, ac1, lk1, mq1, ma1, mb1, ir1, sw1, io1, dl1, ha1, rd1, sn1, md1, kf1, kb1, cn1, pf1, co1, ou1⟩ := u
      refine lv_istore_n S.1 S.2.1 dX_step_21 rfl hl (by decide) rfl (fun ls hl => ?_)
      have hl : lv_has ls 3 [(1, .int r), (2, .int (nI (64 - (k + 1)))), (0, .ref a.1)] := hl
      refine lv_iinc (k := 1) (v := (nI (64 - k))) S.1 S.2.1 dX_step_22 hl rfl (by rw [inc_]; congr 1; omega) (by decide) rfl (fun ls hl => ?_)
      have hl : lv_has ls 3 [(2, .int (nI (64 - k))), (1, .int r), (0, .ref a.1)] := hl
      refine lv_goto (tgt := 7) S.1 S.2.1 dX_step_25 (by decide) ?_
      exact ih (r, (pc1, ac1, lk1, mq1, ma1, mb1, ir1, sw1, io1, dl1, ha1, rd1, sn1, md1, kf1, kb1, cn1, pf1, co1, ou1)) H locs ls (by omega) (by have z := iv_ms I; rw [← hw] at z; exact z) (by rw [hw, ← sp_s g2]; exact hres) hl hP hD hS
set_option maxHeartbeats 4000000 in
set_option maxRecDepth 100000 in
theorem c_X_step (l : Launch) (D : va_G) (a : AX) (sz : Nat) (pc ac lk mq ma mb ir sw io dl ha rd sn md kf kb cn pf : Int32) (co ou : Nat → Int32) (I : Iv a.2.2.2.2.2.2.2 (pc, ac, lk, mq, ma, mb, ir, sw, io, dl, ha, rd, sn, md, kf, kb, cn, pf, co, ou)) : MI l D (wx a) (tx a) sz yX_step cX_step 3 (some .int) 5 [.ref a.1] (pc, ac, lk, mq, ma, mb, ir, sw, io, dl, ha, rd, sn, md, kf, kb, cn, pf, co, ou) (fun r u => (r, u) = stf a.2.2.2.2.2.2.2 (pc, ac, lk, mq, ma, mb, ir, sw, io, dl, ha, rd, sn, md, kf, kb, cn, pf, co, ou)) := by
  refine en_i RX rfl (by decide) (Nat.le_of_ble_eq_true rfl) ?_
  intro p e s m below meth c A ls S hr hk hA hN hK hP hD hS hl
  have hl : lv_has ls 3 [(0, .ref a.1)] := hl
  obtain ⟨-, -, -, hsn, -, -, hcn, hn, -⟩ := id I
  refine lv_aload_n S.1 S.2.1 dX_step_0 rfl (lv_at hl 0 rfl) ?_
  refine cl_i (As := []) (rest := []) S hN hK hP hD hS hA hl.1 (c_X_microStep l D a _ pc ac lk mq ma mb ir sw io dl ha rd sn md kf kb cn pf co ou hsn hn hcn) k_X_108 (rc_X hK hP) ⟨by decide, by decide⟩ rfl rfl (Nat.le_of_ble_eq_true rfl) ⟨Nat.le_refl _, Nat.le_refl _⟩ dX_step_1 (fun r u H locs hw hP hD hS => ?_)
  obtain ⟨pc1, ac1, lk1, mq1, ma1, mb1, ir1, sw1, io1, dl1, ha1, rd1, sn1, md1, kf1, kb1, cn1, pf1, co1, ou1⟩ := u
  refine lv_istore_n S.1 S.2.1 dX_step_4 rfl hl (by decide) rfl (fun ls hl => ?_)
  have hl : lv_has ls 3 [(1, .int r), (0, .ref a.1)] := hl
  refine lv_iconst (v := 1) S.1 S.2.1 dX_step_5 (by decide) ?_
  refine lv_istore_n S.1 S.2.1 dX_step_6 rfl hl (by decide) rfl (fun ls hl => ?_)
  have hl : lv_has ls 3 [(2, .int 1), (1, .int r), (0, .ref a.1)] := hl
  exact lp_X_step S hr hk hA hN hK (stf a.2.2.2.2.2.2.2 (pc, ac, lk, mq, ma, mb, ir, sw, io, dl, ha, rd, sn, md, kf, kb, cn, pf, co, ou)) 63 (r, (pc1, ac1, lk1, mq1, ma1, mb1, ir1, sw1, io1, dl1, ha1, rd1, sn1, md1, kf1, kb1, cn1, pf1, co1, ou1)) H locs ls (by decide) (by have z := iv_ms I; rw [← hw] at z; exact z) (by rw [hw, sp_63 I]; rfl) hl hP hD hS
set_option maxHeartbeats 4000000 in
set_option maxRecDepth 100000 in
theorem lp_X_run {p : Program} {l : Launch} {e : Env} {s : State} {m : MethodId} {below : List Frame} {meth : Method} {c : Code} {A : Nat → Prop} {D : va_G} {a : AX} {args : Array Value} (S : CallFix p m c cX_run 3 s args wsA RX) (hr : meth.sig.returnType = some .int) (hk : meth.locks = false) (hA : ∀ q, s.heap.size ≤ q → A q) (hN : nw s) (hK : va_K D vwCl (tx a) s) (res : Int32 × St) (N : Nat) (hN5 : N ≤ 500) : ∀ (k j : Nat) (u : St) (H : Heap) (locs : List Loc) (ls : Array Slot), j + k = N → Iv a.2.2.2.2.2.2.2 u → rn a.2.2.2.2.2.2.2 k (nI j) u = res → lv_has ls 3 [(2, .int (nI j)), (1, .int (nI N)), (0, .ref a.1)] → va_P D vwCl (wx a u) H → va_D A (wx a u) → va_S A s.heap H locs → W p l e (rmD 6) s m args below meth c H locs 0 0 (MQ below (va_Qi (fun r u => (r, u) = res) (BW D (wx a) (tx a) A) A) args s 0 0 A) (F0 m 15 ls []) := by
  intro k
  induction k with
  | zero =>
    intro j u H locs ls hj I hres hl hP hD hS
    obtain ⟨pc, ac, lk, mq, ma, mb, ir, sw, io, dl, ha, rd, sn, md, kf, kb, cn, pf, co, ou⟩ := u
    have hge : (nI N) ≤ (nI j) := (nI_leI (by omega) (by omega)).mpr (by omega)
    refine lv_iload_n S.1 S.2.1 dX_run_15 rfl (lv_at hl 0 rfl) ?_
    refine lv_iload_n S.1 S.2.1 dX_run_16 rfl (lv_at hl 1 rfl) ?_
    refine lv_icmp_ge (tgt := 33) S.1 S.2.1 dX_run_17 (by decide) (fun _ => ?_) (fun g1 => absurd hge g1)
    refine lv_iload_n S.1 S.2.1 dX_run_33 rfl (lv_at hl 0 rfl) ?_
    exact rt_i S hr hk hK hP hD hS ((by rw [← hres, rn_0])) dX_run_34
  | succ k ih =>
    intro j u H locs ls hj I hres hl hP hD hS
    obtain ⟨pc, ac, lk, mq, ma, mb, ir, sw, io, dl, ha, rd, sn, md, kf, kb, cn, pf, co, ou⟩ := u
    have hge : ¬ (nI N) ≤ (nI j) := fun z => by have := (nI_leI (by omega) (by omega)).mp z; omega
    refine lv_iload_n S.1 S.2.1 dX_run_15 rfl (lv_at hl 0 rfl) ?_
    refine lv_iload_n S.1 S.2.1 dX_run_16 rfl (lv_at hl 1 rfl) ?_
    refine lv_icmp_ge (tgt := 33) S.1 S.2.1 dX_run_17 (by decide) (fun g1 => absurd g1 hge) (fun _ => ?_)
    refine lv_aload_n S.1 S.2.1 dX_run_20 rfl (lv_at hl 2 rfl) ?_
    refine cl_i (As := []) (rest := []) S hN hK hP hD hS hA hl.1 (c_X_step l D a _ pc ac lk mq ma mb ir sw io dl ha rd sn md kf kb cn pf co ou I) k_X_112 (rc_X hK hP) ⟨by decide, by decide⟩ rfl rfl (Nat.le_of_ble_eq_true rfl) ⟨Nat.le_refl _, Nat.le_refl _⟩ dX_run_21 (fun r u H locs hw hP hD hS => ?_)
    obtain ⟨pc1, ac1, lk1, mq1, ma1, mb1, ir1, sw1, io1, dl1, ha1, rd1, sn1, md1, kf1, kb1, cn1, pf1, co1, ou1⟩ := u
    refine lv_if_ne (tgt := 33) S.1 S.2.1 dX_run_24 (by decide) (fun g2 => ?_) (fun g2 => ?_)
    · refine lv_iload_n S.1 S.2.1 dX_run_33 rfl (lv_at hl 0 rfl) ?_
      exact rt_i S hr hk hK hP hD hS ((by rw [← hres, rn_x hw g2])) dX_run_34
    · refine lv_iinc (k := 0) (v := (nI (j + 1))) S.1 S.2.1 dX_run_27 hl rfl (inc_ j) (by decide) rfl (fun ls hl => ?_)
      have hl : lv_has ls 3 [(2, .int (nI (j + 1))), (1, .int (nI N)), (0, .ref a.1)] := hl
      refine lv_goto (tgt := 15) S.1 S.2.1 dX_run_30 (by decide) ?_
      exact ih (j + 1) (pc1, ac1, lk1, mq1, ma1, mb1, ir1, sw1, io1, dl1, ha1, rd1, sn1, md1, kf1, kb1, cn1, pf1, co1, ou1) H locs ls (by omega) (by have z := iv_stf I; rw [← hw] at z; exact z) (by rw [← hres, rn_s hw g2, nI_1]) (lv_sub hl [0, 1, 2] rfl) hP hD hS
set_option maxHeartbeats 4000000 in
set_option maxRecDepth 100000 in
theorem c_X_run (l : Launch) (D : va_G) (a : AX) (sz : Nat) (pc ac lk mq ma mb ir sw io dl ha rd sn md kf kb cn pf : Int32) (co ou : Nat → Int32) (x : Int32) (I : Iv a.2.2.2.2.2.2.2 (pc, ac, lk, mq, ma, mb, ir, sw, io, dl, ha, rd, sn, md, kf, kb, cn, pf, co, ou)) : MI l D (wx a) (tx a) sz yX_run cX_run 3 (some .int) 6 [.ref a.1, .int x] (pc, ac, lk, mq, ma, mb, ir, sw, io, dl, ha, rd, sn, md, kf, kb, cn, pf, co, ou) (fun r u => (r, u) = run_ a.2.2.2.2.2.2.2 x (pc, ac, lk, mq, ma, mb, ir, sw, io, dl, ha, rd, sn, md, kf, kb, cn, pf, co, ou)) := by
  refine en_i RX rfl (by decide) (Nat.le_of_ble_eq_true rfl) ?_
  intro p e s m below meth c A ls S hr hk hA hN hK hP hD hS hl
  have hl : lv_has ls 3 [(0, .ref a.1), (1, .int x)] := hl
  refine lv_iload_n S.1 S.2.1 dX_run_0 rfl (lv_at hl 1 rfl) ?_
  refine lv_if_lt (tgt := 11) S.1 S.2.1 dX_run_1 (by decide) (fun g1 => ?_) (fun g1 => ?_)
  · refine lv_iconst (v := (-1)) S.1 S.2.1 dX_run_11 (by decide) ?_
    exact rt_i S hr hk hK hP hD hS ((by simp [run_, g1])) dX_run_12
  · refine lv_iload_n S.1 S.2.1 dX_run_4 rfl (lv_at hl 1 rfl) ?_
    refine lv_sipush (v := 500) S.1 S.2.1 dX_run_5 (by decide) ?_
    refine lv_icmp_le (tgt := 13) S.1 S.2.1 dX_run_8 (by decide) (fun g2 => ?_) (fun g2 => ?_)
    · refine lv_iconst (v := 0) S.1 S.2.1 dX_run_13 (by decide) ?_
      refine lv_istore_n S.1 S.2.1 dX_run_14 rfl hl (by decide) rfl (fun ls hl => ?_)
      have hl : lv_has ls 3 [(2, .int 0), (0, .ref a.1), (1, .int x)] := hl
      obtain ⟨N, hN5, rfl⟩ := r500 g1 g2
      have e : run_ a.2.2.2.2.2.2.2 (nI N) (pc, ac, lk, mq, ma, mb, ir, sw, io, dl, ha, rd, sn, md, kf, kb, cn, pf, co, ou) = rn a.2.2.2.2.2.2.2 N (nI 0) (pc, ac, lk, mq, ma, mb, ir, sw, io, dl, ha, rd, sn, md, kf, kb, cn, pf, co, ou) := by
        rw [run_, if_neg (fun z => z.elim g1 (fun q => q g2)), nI_clamp (by omega)]; rfl
      rw [e]
      exact lp_X_run S hr hk hA hN hK _ N hN5 N 0 (pc, ac, lk, mq, ma, mb, ir, sw, io, dl, ha, rd, sn, md, kf, kb, cn, pf, co, ou) s.heap [] ls (by omega) I rfl (lv_sub hl [0, 2, 1] rfl) hP hD hS
    · refine lv_iconst (v := (-1)) S.1 S.2.1 dX_run_11 (by decide) ?_
      exact rt_i S hr hk hK hP hD hS ((by simp [run_, g1, g2])) dX_run_12
