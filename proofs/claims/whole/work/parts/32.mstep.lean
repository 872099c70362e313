set_option maxHeartbeats 4000000 in
set_option maxRecDepth 100000 in
theorem lp_M_step {p : Program} {l : Launch} {e : Env} {s : State} {m : MethodId} {below : List Frame} {meth : Method} {c : Code} {A : Nat → Prop} {D : va_G} {a : AR} {args : Array Value} (S : CallFix p m c cM_step 3 s args wsA RM) (hr : meth.sig.returnType = some .int) (hk : meth.locks = false) (hA : ∀ q, s.heap.size ≤ q → A q) (hN : nw s) (hK : va_K D vwCl (tr a) s) (res : Int32 × St) : ∀ (k : Nat) (u : St) (H : Heap) (locs : List Loc) (ls : Array Slot), k ≤ 19 → Iv a.2.2.2.2.2 u → an_ (sp a.2.2.2.2.2 k (ms a.2.2.2.2.2 u)) = res → lv_has ls 3 [(1, .int (nI (20 - (k + 1)))), (0, .ref a.1)] → va_P D vwCl (wr a u) H → va_D A (wr a u) → va_S A s.heap H locs → W p l e (rmD 4) s m args below meth c H locs 0 0 (MQ below (va_Qi (fun r u => (r, u) = res) (BW D (wr a) (tr a) A) A) args s 0 0 A) (F0 m 2 ls []) := by
  intro k
  induction k with
  | zero =>
    intro u H locs ls hk9 I hres hl hP hD hS
    obtain ⟨pc, ac, lk, mq, ma, mb, ir, sw, io, dl, ha, rd, sn, md, kf, kb, cn, pf, co, ou⟩ := u
    have hl : lv_has ls 3 [(1, .int (nI (20 - (0 + 1)))), (0, .ref a.1)] := hl
    have h20 : ¬ 20 ≤ (nI (20 - (0 + 1))) := i20 (by omega)
    refine lv_iload_n S.1 S.2.1 dM_step_2 rfl (lv_at hl 0 rfl) ?_
    refine lv_bipush (v := 20) S.1 S.2.1 dM_step_3 (by decide) ?_
    refine lv_icmp_ge (tgt := 34) S.1 S.2.1 dM_step_5 (by decide) (fun g1 => absurd g1 h20) (fun _ => ?_)
    refine lv_aload_n S.1 S.2.1 dM_step_8 rfl (lv_at hl 1 rfl) ?_
    refine cl_i (As := []) (rest := []) S hN hK hP hD hS hA hl.1 (c_M_microStep l D a _ pc ac lk mq ma mb ir sw io dl ha rd sn md kf kb cn pf co ou I) k_M_109 (rc_M hK hP) ⟨by decide, by decide⟩ rfl rfl (Nat.le_of_ble_eq_true rfl) ⟨Nat.le_refl _, Nat.le_refl _⟩ dM_step_9 (fun r u H locs hw hP hD hS => ?_)
    obtain ⟨pc1, ac1, lk1, mq1, ma1, mb1, ir1, sw1, io1, dl1, ha1, rd1, sn1, md1, kf1, kb1, cn1, pf1, co1, ou1⟩ := u
    refine lv_istore_n S.1 S.2.1 dM_step_12 rfl hl (by decide) rfl (fun ls hl => ?_)
    have hl : lv_has ls 3 [(2, .int r), (1, .int (nI (20 - (0 + 1)))), (0, .ref a.1)] := hl
    refine lv_iload_n S.1 S.2.1 dM_step_13 rfl (lv_at hl 0 rfl) ?_
    refine lv_if_eq (tgt := 28) S.1 S.2.1 dM_step_14 (by decide) (fun g2 => ?_) (fun g2 => ?_)
    · refine lv_iinc (k := 1) (v := 20) S.1 S.2.1 dM_step_28 hl rfl (by decide +kernel) (by decide) rfl (fun ls hl => ?_)
      have hl : lv_has ls 3 [(1, .int 20), (2, .int r), (0, .ref a.1)] := hl
      refine lv_goto (tgt := 2) S.1 S.2.1 dM_step_31 (by decide) ?_
      refine lv_iload_n S.1 S.2.1 dM_step_2 rfl (lv_at hl 0 rfl) ?_
      refine lv_bipush (v := 20) S.1 S.2.1 dM_step_3 (by decide) ?_
      refine lv_icmp_ge (tgt := 34) S.1 S.2.1 dM_step_5 (by decide) (fun _ => ?_) (fun g3 => absurd (by decide) g3)
      refine lv_iconst (v := 0) S.1 S.2.1 dM_step_34 (by decide) ?_
      exact rt_i S hr hk hK hP hD hS ((by rw [← hres, ← hw]; simp [sp, an_, g2])) dM_step_35
    · refine lv_iload_n S.1 S.2.1 dM_step_17 rfl (lv_at hl 0 rfl) ?_
      refine lv_iconst (v := 1) S.1 S.2.1 dM_step_18 (by decide) ?_
      refine lv_icmp_ne (tgt := 26) S.1 S.2.1 dM_step_19 (by decide) (fun g4 => ?_) (fun g4 => ?_)
      · refine lv_iload_n S.1 S.2.1 dM_step_26 rfl (lv_at hl 0 rfl) ?_
        exact rt_i S hr hk hK hP hD hS ((by rw [← hres, ← hw, sp_x g2]; simp [an_, g4])) dM_step_27
      · refine lv_iconst (v := 0) S.1 S.2.1 dM_step_22 (by decide) ?_
        refine lv_goto (tgt := 27) S.1 S.2.1 dM_step_23 (by decide) ?_
        exact rt_i S hr hk hK hP hD hS ((by rw [← hres, ← hw, sp_x g2]; simp [an_, g4])) dM_step_27
  | succ k ih =>
    intro u H locs ls hk9 I hres hl hP hD hS
    obtain ⟨pc, ac, lk, mq, ma, mb, ir, sw, io, dl, ha, rd, sn, md, kf, kb, cn, pf, co, ou⟩ := u
    have hl : lv_has ls 3 [(1, .int (nI (20 - ((k + 1) + 1)))), (0, .ref a.1)] := hl
    have h20 : ¬ 20 ≤ (nI (20 - ((k + 1) + 1))) := i20 (by omega)
    refine lv_iload_n S.1 S.2.1 dM_step_2 rfl (lv_at hl 0 rfl) ?_
    refine lv_bipush (v := 20) S.1 S.2.1 dM_step_3 (by decide) ?_
    refine lv_icmp_ge (tgt := 34) S.1 S.2.1 dM_step_5 (by decide) (fun g1 => absurd g1 h20) (fun _ => ?_)
    refine lv_aload_n S.1 S.2.1 dM_step_8 rfl (lv_at hl 1 rfl) ?_
    refine cl_i (As := []) (rest := []) S hN hK hP hD hS hA hl.1 (c_M_microStep l D a _ pc ac lk mq ma mb ir sw io dl ha rd sn md kf kb cn pf co ou I) k_M_109 (rc_M hK hP) ⟨by decide, by decide⟩ rfl rfl (Nat.le_of_ble_eq_true rfl) ⟨Nat.le_refl _, Nat.le_refl _⟩ dM_step_9 (fun r u H locs hw hP hD hS => ?_)
    obtain ⟨pc1, ac1, lk1, mq1, ma1, mb1, ir1, sw1, io1, dl1, ha1, rd1, sn1, md1, kf1, kb1, cn1, pf1, co1, ou1⟩ := u
    refine lv_istore_n S.1 S.2.1 dM_step_12 rfl hl (by decide) rfl (fun ls hl => ?_)
    have hl : lv_has ls 3 [(2, .int r), (1, .int (nI (20 - ((k + 1) + 1)))), (0, .ref a.1)] := hl
    refine lv_iload_n S.1 S.2.1 dM_step_13 rfl (lv_at hl 0 rfl) ?_
    refine lv_if_eq (tgt := 28) S.1 S.2.1 dM_step_14 (by decide) (fun g2 => ?_) (fun g2 => ?_)
    · refine lv_iinc (k := 1) (v := (nI (20 - (k + 1)))) S.1 S.2.1 dM_step_28 hl rfl (by rw [inc_]; congr 1; omega) (by decide) rfl (fun ls hl => ?_)
      have hl : lv_has ls 3 [(1, .int (nI (20 - (k + 1)))), (2, .int r), (0, .ref a.1)] := hl
      refine lv_goto (tgt := 2) S.1 S.2.1 dM_step_31 (by decide) ?_
      exact ih (pc1, ac1, lk1, mq1, ma1, mb1, ir1, sw1, io1, dl1, ha1, rd1, sn1, md1, kf1, kb1, cn1, pf1, co1, ou1) H locs ls (by omega) (by have z := iv_ms I; rw [← hw] at z; exact z) (by rw [← sp_s (r := r) g2, hw]; exact hres) (lv_sub hl [0, 2] rfl) hP hD hS
    · refine lv_iload_n S.1 S.2.1 dM_step_17 rfl (lv_at hl 0 rfl) ?_
      refine lv_iconst (v := 1) S.1 S.2.1 dM_step_18 (by decide) ?_
      refine lv_icmp_ne (tgt := 26) S.1 S.2.1 dM_step_19 (by decide) (fun g3 => ?_) (fun g3 => ?_)
      · refine lv_iload_n S.1 S.2.1 dM_step_26 rfl (lv_at hl 0 rfl) ?_
        exact rt_i S hr hk hK hP hD hS ((by rw [← hres, ← hw, sp_x g2]; simp [an_, g3])) dM_step_27
      · refine lv_iconst (v := 0) S.1 S.2.1 dM_step_22 (by decide) ?_
        refine lv_goto (tgt := 27) S.1 S.2.1 dM_step_23 (by decide) ?_
        exact rt_i S hr hk hK hP hD hS ((by rw [← hres, ← hw, sp_x g2]; simp [an_, g3])) dM_step_27
set_option maxHeartbeats 4000000 in
set_option maxRecDepth 100000 in
theorem c_M_step (l : Launch) (D : va_G) (a : AR) (sz : Nat) (pc ac lk mq ma mb ir sw io dl ha rd sn md kf kb cn pf : Int32) (co ou : Nat → Int32) (I : Iv a.2.2.2.2.2 (pc, ac, lk, mq, ma, mb, ir, sw, io, dl, ha, rd, sn, md, kf, kb, cn, pf, co, ou)) : MI l D (wr a) (tr a) sz yM_step cM_step 3 (some .int) 4 [.ref a.1] (pc, ac, lk, mq, ma, mb, ir, sw, io, dl, ha, rd, sn, md, kf, kb, cn, pf, co, ou) (fun r u => (r, u) = stf a.2.2.2.2.2 (pc, ac, lk, mq, ma, mb, ir, sw, io, dl, ha, rd, sn, md, kf, kb, cn, pf, co, ou)) := by
  refine en_i RM rfl (by decide) (Nat.le_of_ble_eq_true rfl) ?_
  intro p e s m below meth c A ls S hr hk hA hN hK hP hD hS hl
  have hl : lv_has ls 3 [(0, .ref a.1)] := hl
  obtain ⟨-, -, -, hsn, -, -, hcn, hn, -⟩ := id I
  refine lv_iconst (v := 0) S.1 S.2.1 dM_step_0 (by decide) ?_
  refine lv_istore_n S.1 S.2.1 dM_step_1 rfl hl (by decide) rfl (fun ls hl => ?_)
  have hl : lv_has ls 3 [(1, .int 0), (0, .ref a.1)] := hl
  exact lp_M_step S hr hk hA hN hK (stf a.2.2.2.2.2 (pc, ac, lk, mq, ma, mb, ir, sw, io, dl, ha, rd, sn, md, kf, kb, cn, pf, co, ou)) 19 (pc, ac, lk, mq, ma, mb, ir, sw, io, dl, ha, rd, sn, md, kf, kb, cn, pf, co, ou) s.heap [] ls (by decide) I rfl hl hP hD hS
set_option maxHeartbeats 4000000 in
set_option maxRecDepth 100000 in
theorem lp_M_run {p : Program} {l : Launch} {e : Env} {s : State} {m : MethodId} {below : List Frame} {meth : Method} {c : Code} {A : Nat → Prop} {D : va_G} {a : AR} {args : Array Value} (S : CallFix p m c cM_run 4 s args wsA RM) (hr : meth.sig.returnType = some .int) (hk : meth.locks = false) (hA : ∀ q, s.heap.size ≤ q → A q) (hN : nw s) (hK : va_K D vwCl (tr a) s) (res : Int32 × St) (N : Nat) (hN5 : N ≤ 500) : ∀ (k j : Nat) (u : St) (H : Heap) (locs : List Loc) (ls : Array Slot), j + k = N → Iv a.2.2.2.2.2 u → rn a.2.2.2.2.2 k (nI j) u = res → lv_has ls 4 [(3, .int (nI j)), (2, .int (nI j)), (1, .int (nI N)), (0, .ref a.1)] → va_P D vwCl (wr a u) H → va_D A (wr a u) → va_S A s.heap H locs → W p l e (rmD 5) s m args below meth c H locs 0 0 (MQ below (va_Qi (fun r u => (r, u) = res) (BW D (wr a) (tr a) A) A) args s 0 0 A) (F0 m 17 ls []) := by
  intro k
  induction k with
  | zero =>
    intro j u H locs ls hj I hres hl hP hD hS
    obtain ⟨pc, ac, lk, mq, ma, mb, ir, sw, io, dl, ha, rd, sn, md, kf, kb, cn, pf, co, ou⟩ := u
    have hge : (nI N) ≤ (nI j) := (nI_leI (by omega) (by omega)).mpr (by omega)
    refine lv_iload_n S.1 S.2.1 dM_run_17 rfl (lv_at hl 0 rfl) ?_
    refine lv_iload_n S.1 S.2.1 dM_run_18 rfl (lv_at hl 2 rfl) ?_
    refine lv_icmp_ge (tgt := 40) S.1 S.2.1 dM_run_19 (by decide) (fun _ => ?_) (fun g1 => absurd hge g1)
    refine lv_iload_n S.1 S.2.1 dM_run_40 rfl (lv_at hl 1 rfl) ?_
    exact rt_i S hr hk hK hP hD hS ((by rw [← hres, rn_0])) dM_run_41
  | succ k ih =>
    intro j u H locs ls hj I hres hl hP hD hS
    obtain ⟨pc, ac, lk, mq, ma, mb, ir, sw, io, dl, ha, rd, sn, md, kf, kb, cn, pf, co, ou⟩ := u
    have hge : ¬ (nI N) ≤ (nI j) := fun z => by have := (nI_leI (by omega) (by omega)).mp z; omega
    refine lv_iload_n S.1 S.2.1 dM_run_17 rfl (lv_at hl 0 rfl) ?_
    refine lv_iload_n S.1 S.2.1 dM_run_18 rfl (lv_at hl 2 rfl) ?_
    refine lv_icmp_ge (tgt := 40) S.1 S.2.1 dM_run_19 (by decide) (fun g1 => absurd g1 hge) (fun _ => ?_)
    refine lv_aload_n S.1 S.2.1 dM_run_22 rfl (lv_at hl 3 rfl) ?_
    refine cl_i (As := []) (rest := []) S hN hK hP hD hS hA hl.1 (c_M_step l D a _ pc ac lk mq ma mb ir sw io dl ha rd sn md kf kb cn pf co ou I) k_M_112 (rc_M hK hP) ⟨by decide, by decide⟩ rfl rfl (Nat.le_of_ble_eq_true rfl) ⟨Nat.le_refl _, Nat.le_refl _⟩ dM_run_23 (fun r u H locs hw hP hD hS => ?_)
    obtain ⟨pc1, ac1, lk1, mq1, ma1, mb1, ir1, sw1, io1, dl1, ha1, rd1, sn1, md1, kf1, kb1, cn1, pf1, co1, ou1⟩ := u
    refine lv_if_eq (tgt := 31) S.1 S.2.1 dM_run_26 (by decide) (fun g2 => ?_) (fun g2 => ?_)
    · refine lv_iinc (k := 1) (v := (nI (j + 1))) S.1 S.2.1 dM_run_31 hl rfl (inc_ j) (by decide) rfl (fun ls hl => ?_)
      have hl : lv_has ls 4 [(2, .int (nI (j + 1))), (3, .int (nI j)), (1, .int (nI N)), (0, .ref a.1)] := hl
      refine lv_iinc (k := 1) (v := (nI (j + 1))) S.1 S.2.1 dM_run_34 hl rfl (inc_ j) (by decide) rfl (fun ls hl => ?_)
      have hl : lv_has ls 4 [(3, .int (nI (j + 1))), (2, .int (nI (j + 1))), (1, .int (nI N)), (0, .ref a.1)] := hl
      refine lv_goto (tgt := 17) S.1 S.2.1 dM_run_37 (by decide) ?_
      exact ih (j + 1) (pc1, ac1, lk1, mq1, ma1, mb1, ir1, sw1, io1, dl1, ha1, rd1, sn1, md1, kf1, kb1, cn1, pf1, co1, ou1) H locs ls (by omega) (by have z := iv_stf I; rw [← hw] at z; exact z) (by rw [← hres, rn_s hw g2, nI_1]) (lv_sub hl [0, 1, 2, 3] rfl) hP hD hS
    · refine lv_iload_n S.1 S.2.1 dM_run_29 rfl (lv_at hl 1 rfl) ?_
      exact rt_i S hr hk hK hP hD hS ((by rw [← hres, rn_x hw g2])) dM_run_30
set_option maxHeartbeats 4000000 in
set_option maxRecDepth 100000 in
theorem c_M_run (l : Launch) (D : va_G) (a : AR) (sz : Nat) (pc ac lk mq ma mb ir sw io dl ha rd sn md kf kb cn pf : Int32) (co ou : Nat → Int32) (x : Int32) (I : Iv a.2.2.2.2.2 (pc, ac, lk, mq, ma, mb, ir, sw, io, dl, ha, rd, sn, md, kf, kb, cn, pf, co, ou)) : MI l D (wr a) (tr a) sz yM_run cM_run 4 (some .int) 5 [.ref a.1, .int x] (pc, ac, lk, mq, ma, mb, ir, sw, io, dl, ha, rd, sn, md, kf, kb, cn, pf, co, ou) (fun r u => (r, u) = run_ a.2.2.2.2.2 x (pc, ac, lk, mq, ma, mb, ir, sw, io, dl, ha, rd, sn, md, kf, kb, cn, pf, co, ou)) := by
  refine en_i RM rfl (by decide) (Nat.le_of_ble_eq_true rfl) ?_
  intro p e s m below meth c A ls S hr hk hA hN hK hP hD hS hl
  have hl : lv_has ls 4 [(0, .ref a.1), (1, .int x)] := hl
  refine lv_iload_n S.1 S.2.1 dM_run_0 rfl (lv_at hl 1 rfl) ?_
  refine lv_if_lt (tgt := 11) S.1 S.2.1 dM_run_1 (by decide) (fun g1 => ?_) (fun g1 => ?_)
  · refine lv_iconst (v := (-1)) S.1 S.2.1 dM_run_11 (by decide) ?_
    exact rt_i S hr hk hK hP hD hS ((by simp [run_, g1])) dM_run_12
  · refine lv_iload_n S.1 S.2.1 dM_run_4 rfl (lv_at hl 1 rfl) ?_
    refine lv_sipush (v := 500) S.1 S.2.1 dM_run_5 (by decide) ?_
    refine lv_icmp_le (tgt := 13) S.1 S.2.1 dM_run_8 (by decide) (fun g2 => ?_) (fun g2 => ?_)
    · refine lv_iconst (v := 0) S.1 S.2.1 dM_run_13 (by decide) ?_
      refine lv_istore_n S.1 S.2.1 dM_run_14 rfl hl (by decide) rfl (fun ls hl => ?_)
      have hl : lv_has ls 4 [(2, .int 0), (0, .ref a.1), (1, .int x)] := hl
      refine lv_iconst (v := 0) S.1 S.2.1 dM_run_15 (by decide) ?_
      refine lv_istore_n S.1 S.2.1 dM_run_16 rfl hl (by decide) rfl (fun ls hl => ?_)
      have hl : lv_has ls 4 [(3, .int 0), (2, .int 0), (0, .ref a.1), (1, .int x)] := hl
      obtain ⟨N, hN5, rfl⟩ := r500 g1 g2
      have e : run_ a.2.2.2.2.2 (nI N) (pc, ac, lk, mq, ma, mb, ir, sw, io, dl, ha, rd, sn, md, kf, kb, cn, pf, co, ou) = rn a.2.2.2.2.2 N (nI 0) (pc, ac, lk, mq, ma, mb, ir, sw, io, dl, ha, rd, sn, md, kf, kb, cn, pf, co, ou) := by
        rw [run_, if_neg (fun z => z.elim g1 (fun q => q g2)), nI_clamp (by omega)]; rfl
      rw [e]
      exact lp_M_run S hr hk hA hN hK _ N hN5 N 0 (pc, ac, lk, mq, ma, mb, ir, sw, io, dl, ha, rd, sn, md, kf, kb, cn, pf, co, ou) s.heap [] ls (by omega) I rfl (lv_sub hl [0, 1, 3, 2] rfl) hP hD hS
    · refine lv_iconst (v := (-1)) S.1 S.2.1 dM_run_11 (by decide) ?_
      exact rt_i S hr hk hK hP hD hS ((by simp [run_, g1, g2])) dM_run_12
