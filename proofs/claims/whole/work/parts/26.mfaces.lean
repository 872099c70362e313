set_option maxHeartbeats 4000000 in
set_option maxRecDepth 100000 in
theorem c_M_init (l : Launch) (D : va_G) (a : AR) (sz : Nat) (pc ac lk mq ma mb ir sw io dl ha rd sn md kf kb cn pf : Int32) (co ou : Nat → Int32) : MV l D (wr a) (tr a) sz yM_init_ cM_init_ 1 0 [.ref a.1] (pc, ac, lk, mq, ma, mb, ir, sw, io, dl, ha, rd, sn, md, kf, kb, cn, pf, co, ou) (fun u => u = (0, 0, 0, 0, 0, 0, 0, sw, 0, 0, 0, 1, 0, 0, 0, 0, 0, 0, co, ou)) := by
  refine en_v RM rfl (by decide) (Nat.le_of_ble_eq_true rfl) ?_
  intro p e s m below meth c A ls S hr hk hA hN hK hP hD hS hl
  have hl : lv_has ls 1 [(0, .ref a.1)] := hl
  refine lv_aload_n S.1 S.2.1 dM_init__0 rfl (lv_at hl 0 rfl) ?_
  refine lv_iconst (v := 1) S.1 S.2.1 dM_init__1 (by decide) ?_
  refine p_M_M_ready S hK hP hD hS rfl rfl dM_init__2 (fun H locs hP hD hS => ?_)
  refine lv_aload_n S.1 S.2.1 dM_init__5 rfl (lv_at hl 0 rfl) ?_
  refine lv_iconst (v := 0) S.1 S.2.1 dM_init__6 (by decide) ?_
  refine p_M_M_at S hK hP hD hS dM_init__7 (fun H locs hP hD hS => ?_)
  refine lv_aload_n S.1 S.2.1 dM_init__10 rfl (lv_at hl 0 rfl) ?_
  refine lv_iconst (v := 0) S.1 S.2.1 dM_init__11 (by decide) ?_
  refine p_M_M_pc S hK hP hD hS dM_init__12 (fun H locs hP hD hS => ?_)
  refine lv_aload_n S.1 S.2.1 dM_init__15 rfl (lv_at hl 0 rfl) ?_
  refine lv_iconst (v := 0) S.1 S.2.1 dM_init__16 (by decide) ?_
  refine p_M_M_ac S hK hP hD hS dM_init__17 (fun H locs hP hD hS => ?_)
  refine lv_aload_n S.1 S.2.1 dM_init__20 rfl (lv_at hl 0 rfl) ?_
  refine lv_iconst (v := 0) S.1 S.2.1 dM_init__21 (by decide) ?_
  refine p_M_M_link S hK hP hD hS dM_init__22 (fun H locs hP hD hS => ?_)
  refine lv_aload_n S.1 S.2.1 dM_init__25 rfl (lv_at hl 0 rfl) ?_
  refine lv_iconst (v := 0) S.1 S.2.1 dM_init__26 (by decide) ?_
  refine p_M_M_mq S hK hP hD hS dM_init__27 (fun H locs hP hD hS => ?_)
  refine lv_aload_n S.1 S.2.1 dM_init__30 rfl (lv_at hl 0 rfl) ?_
  refine lv_iconst (v := 0) S.1 S.2.1 dM_init__31 (by decide) ?_
  refine p_M_M_ma S hK hP hD hS dM_init__32 (fun H locs hP hD hS => ?_)
  refine lv_aload_n S.1 S.2.1 dM_init__35 rfl (lv_at hl 0 rfl) ?_
  refine lv_iconst (v := 0) S.1 S.2.1 dM_init__36 (by decide) ?_
  refine p_M_M_mb S hK hP hD hS dM_init__37 (fun H locs hP hD hS => ?_)
  refine lv_aload_n S.1 S.2.1 dM_init__40 rfl (lv_at hl 0 rfl) ?_
  refine lv_iconst (v := 0) S.1 S.2.1 dM_init__41 (by decide) ?_
  refine p_M_M_ir S hK hP hD hS dM_init__42 (fun H locs hP hD hS => ?_)
  refine lv_aload_n S.1 S.2.1 dM_init__45 rfl (lv_at hl 0 rfl) ?_
  refine lv_iconst (v := 0) S.1 S.2.1 dM_init__46 (by decide) ?_
  refine p_M_M_ion S hK hP hD hS rfl rfl dM_init__47 (fun H locs hP hD hS => ?_)
  refine lv_aload_n S.1 S.2.1 dM_init__50 rfl (lv_at hl 0 rfl) ?_
  refine lv_iconst (v := 0) S.1 S.2.1 dM_init__51 (by decide) ?_
  refine p_M_M_delay S hK hP hD hS rfl rfl dM_init__52 (fun H locs hP hD hS => ?_)
  refine lv_aload_n S.1 S.2.1 dM_init__55 rfl (lv_at hl 0 rfl) ?_
  refine lv_iconst (v := 0) S.1 S.2.1 dM_init__56 (by decide) ?_
  refine p_M_M_halted S hK hP hD hS rfl rfl dM_init__57 (fun H locs hP hD hS => ?_)
  refine lv_aload_n S.1 S.2.1 dM_init__60 rfl (lv_at hl 0 rfl) ?_
  refine lv_iconst (v := 0) S.1 S.2.1 dM_init__61 (by decide) ?_
  refine p_M_M_keyFlag S hK hP hD hS rfl rfl dM_init__62 (fun H locs hP hD hS => ?_)
  refine lv_aload_n S.1 S.2.1 dM_init__65 rfl (lv_at hl 0 rfl) ?_
  refine lv_iconst (v := 0) S.1 S.2.1 dM_init__66 (by decide) ?_
  refine p_M_M_printFlag S hK hP hD hS rfl rfl dM_init__67 (fun H locs hP hD hS => ?_)
  refine lv_aload_n S.1 S.2.1 dM_init__70 rfl (lv_at hl 0 rfl) ?_
  refine lv_iconst (v := 0) S.1 S.2.1 dM_init__71 (by decide) ?_
  refine p_M_M_buffer S hK hP hD hS dM_init__72 (fun H locs hP hD hS => ?_)
  refine lv_aload_n S.1 S.2.1 dM_init__75 rfl (lv_at hl 0 rfl) ?_
  refine lv_iconst (v := 0) S.1 S.2.1 dM_init__76 (by decide) ?_
  refine p_M_M_printed S hK hP hD hS dM_init__77 (fun H locs hP hD hS => ?_)
  refine lv_aload_n S.1 S.2.1 dM_init__80 rfl (lv_at hl 0 rfl) ?_
  refine lv_iconst (v := 0) S.1 S.2.1 dM_init__81 (by decide) ?_
  refine p_M_M_made S hK hP hD hS dM_init__82 (fun H locs hP hD hS => ?_)
  exact rt_v S hr hk hK hP hD hS (rfl) dM_init__85

set_option maxHeartbeats 4000000 in
set_option maxRecDepth 100000 in
theorem c_M_deposit (l : Launch) (D : va_G) (a : AR) (sz : Nat) (pc ac lk mq ma mb ir sw io dl ha rd sn md kf kb cn pf : Int32) (co ou : Nat → Int32) (x v : Int32) : MI l D (wr a) (tr a) sz yM_deposit cM_deposit 3 (some .boolean) 1 [.ref a.1, .int x, .int v] (pc, ac, lk, mq, ma, mb, ir, sw, io, dl, ha, rd, sn, md, kf, kb, cn, pf, co, ou) (fun r u => ((x < 0) ∧ r = 0 ∧ u = (pc, ac, lk, mq, ma, mb, ir, sw, io, dl, ha, rd, sn, md, kf, kb, cn, pf, co, ou)) ∨ ((¬ x < 0) ∧ (4096 ≤ x) ∧ r = 0 ∧ u = (pc, ac, lk, mq, ma, mb, ir, sw, io, dl, ha, rd, sn, md, kf, kb, cn, pf, co, ou)) ∨ ((¬ x < 0) ∧ (¬ 4096 ≤ x) ∧ r = 1 ∧ u = (pc, ac, lk, mq, ma, mb, ir, sw, io, dl, ha, rd, sn, md, kf, kb, cn, pf, (upd co (x &&& 4095).toNatClampNeg (v &&& 4095)), ou))) := by
  refine en_i RM rfl (by decide) (Nat.le_of_ble_eq_true rfl) ?_
  intro p e s m below meth c A ls S hr hk hA hN hK hP hD hS hl
  have hl : lv_has ls 3 [(0, .ref a.1), (1, .int x), (2, .int v)] := hl
  refine lv_iload_n S.1 S.2.1 dM_deposit_0 rfl (lv_at hl 1 rfl) ?_
  refine cl_iS (As := [.int x]) (rest := []) S hN hK hP hD hS hA hl.1 (c_M_isAddress l D a _ pc ac lk mq ma mb ir sw io dl ha rd sn md kf kb cn pf co ou x) k_M_72 ⟨by decide, by decide⟩ rfl rfl (Nat.le_of_ble_eq_true rfl) ⟨Nat.le_refl _, Nat.le_refl _⟩ dM_deposit_1 (fun r u H locs hw hP hD hS => ?_)
  obtain ⟨g1, rfl, rfl⟩ | ⟨g2, g3, rfl, rfl⟩ | ⟨g4, g5, rfl, rfl⟩ := hw
  · refine lv_if_ne (tgt := 9) S.1 S.2.1 dM_deposit_4 (by decide) (fun g6 => absurd (by decide) g6) (fun _ => ?_)
    refine lv_iconst (v := 0) S.1 S.2.1 dM_deposit_7 (by decide) ?_
    exact rt_z S hr hk hK hP hD hS rfl (Or.inl (⟨g1, rfl, rfl⟩)) dM_deposit_8
  · refine lv_if_ne (tgt := 9) S.1 S.2.1 dM_deposit_4 (by decide) (fun g7 => absurd (by decide) g7) (fun _ => ?_)
    refine lv_iconst (v := 0) S.1 S.2.1 dM_deposit_7 (by decide) ?_
    exact rt_z S hr hk hK hP hD hS rfl (Or.inr (Or.inl (⟨g2, g3, rfl, rfl⟩))) dM_deposit_8
  · refine lv_if_ne (tgt := 9) S.1 S.2.1 dM_deposit_4 (by decide) (fun _ => ?_) (fun g8 => absurd g8 (by decide))
    refine lv_aload_n S.1 S.2.1 dM_deposit_9 rfl (lv_at hl 0 rfl) ?_
    refine g_M_M_core S hK hP dM_deposit_10 ?_
    refine lv_iload_n S.1 S.2.1 dM_deposit_13 rfl (lv_at hl 1 rfl) ?_
    refine lv_iload_n S.1 S.2.1 dM_deposit_14 rfl (lv_at hl 2 rfl) ?_
    refine lv_sipush (v := 4095) S.1 S.2.1 dM_deposit_15 (by decide) ?_
    refine lv_iand S.1 S.2.1 dM_deposit_18 ?_
    refine st_rco S hK hP hD hS (in_a g4 g5) dM_deposit_19 (fun H locs hP hD hS => ?_)
    refine lv_iconst (v := 1) S.1 S.2.1 dM_deposit_20 (by decide) ?_
    exact rt_z S hr hk hK hP hD hS rfl ((by rw [ad_w g4 g5]; exact Or.inr (Or.inr ⟨g4, g5, rfl, rfl⟩))) dM_deposit_21

set_option maxHeartbeats 4000000 in
set_option maxRecDepth 100000 in
theorem c_M_examine (l : Launch) (D : va_G) (a : AR) (sz : Nat) (pc ac lk mq ma mb ir sw io dl ha rd sn md kf kb cn pf : Int32) (co ou : Nat → Int32) (x : Int32) : MI l D (wr a) (tr a) sz yM_examine cM_examine 2 (some .int) 1 [.ref a.1, .int x] (pc, ac, lk, mq, ma, mb, ir, sw, io, dl, ha, rd, sn, md, kf, kb, cn, pf, co, ou) (fun r u => ((x < 0) ∧ r = (-1) ∧ u = (pc, ac, lk, mq, ma, mb, ir, sw, io, dl, ha, rd, sn, md, kf, kb, cn, pf, co, ou)) ∨ ((¬ x < 0) ∧ (4096 ≤ x) ∧ r = (-1) ∧ u = (pc, ac, lk, mq, ma, mb, ir, sw, io, dl, ha, rd, sn, md, kf, kb, cn, pf, co, ou)) ∨ ((¬ x < 0) ∧ (¬ 4096 ≤ x) ∧ r = (co (x &&& 4095).toNatClampNeg) ∧ u = (pc, ac, lk, mq, ma, mb, ir, sw, io, dl, ha, rd, sn, md, kf, kb, cn, pf, co, ou))) := by
  refine en_i RM rfl (by decide) (Nat.le_of_ble_eq_true rfl) ?_
  intro p e s m below meth c A ls S hr hk hA hN hK hP hD hS hl
  have hl : lv_has ls 2 [(0, .ref a.1), (1, .int x)] := hl
  refine lv_iload_n S.1 S.2.1 dM_examine_0 rfl (lv_at hl 1 rfl) ?_
  refine cl_iS (As := [.int x]) (rest := []) S hN hK hP hD hS hA hl.1 (c_M_isAddress l D a _ pc ac lk mq ma mb ir sw io dl ha rd sn md kf kb cn pf co ou x) k_M_72 ⟨by decide, by decide⟩ rfl rfl (Nat.le_of_ble_eq_true rfl) ⟨Nat.le_refl _, Nat.le_refl _⟩ dM_examine_1 (fun r u H locs hw hP hD hS => ?_)
  obtain ⟨g1, rfl, rfl⟩ | ⟨g2, g3, rfl, rfl⟩ | ⟨g4, g5, rfl, rfl⟩ := hw
  · refine lv_if_eq (tgt := 16) S.1 S.2.1 dM_examine_4 (by decide) (fun _ => ?_) (fun g6 => absurd (by decide) g6)
    refine lv_iconst (v := (-1)) S.1 S.2.1 dM_examine_16 (by decide) ?_
    exact rt_i S hr hk hK hP hD hS (Or.inl (⟨g1, rfl, rfl⟩)) dM_examine_17
  · refine lv_if_eq (tgt := 16) S.1 S.2.1 dM_examine_4 (by decide) (fun _ => ?_) (fun g7 => absurd (by decide) g7)
    refine lv_iconst (v := (-1)) S.1 S.2.1 dM_examine_16 (by decide) ?_
    exact rt_i S hr hk hK hP hD hS (Or.inr (Or.inl (⟨g2, g3, rfl, rfl⟩))) dM_examine_17
  · refine lv_if_eq (tgt := 16) S.1 S.2.1 dM_examine_4 (by decide) (fun g8 => absurd g8 (by decide)) (fun _ => ?_)
    refine lv_aload_n S.1 S.2.1 dM_examine_7 rfl (lv_at hl 0 rfl) ?_
    refine g_M_M_core S hK hP dM_examine_8 ?_
    refine lv_iload_n S.1 S.2.1 dM_examine_11 rfl (lv_at hl 1 rfl) ?_
    refine ld_rco S hK hP (in_a g4 g5) dM_examine_12 ?_
    refine lv_goto (tgt := 17) S.1 S.2.1 dM_examine_13 (by decide) ?_
    exact rt_i S hr hk hK hP hD hS ((by rw [ad_w g4 g5]; exact Or.inr (Or.inr ⟨g4, g5, rfl, rfl⟩))) dM_examine_17

set_option maxHeartbeats 4000000 in
set_option maxRecDepth 100000 in
theorem c_M_start (l : Launch) (D : va_G) (a : AR) (sz : Nat) (pc ac lk mq ma mb ir sw io dl ha rd sn md kf kb cn pf : Int32) (co ou : Nat → Int32) (x : Int32) : MI l D (wr a) (tr a) sz yM_start cM_start 2 (some .boolean) 0 [.ref a.1, .int x] (pc, ac, lk, mq, ma, mb, ir, sw, io, dl, ha, rd, sn, md, kf, kb, cn, pf, co, ou) (fun r u => ((rd = 0) ∧ r = 0 ∧ u = (pc, ac, lk, mq, ma, mb, ir, sw, io, dl, ha, rd, sn, md, kf, kb, cn, pf, co, ou)) ∨ ((¬ rd = 0) ∧ (¬ sn = 0) ∧ r = 0 ∧ u = (pc, ac, lk, mq, ma, mb, ir, sw, io, dl, ha, rd, sn, md, kf, kb, cn, pf, co, ou)) ∨ ((¬ rd = 0) ∧ (sn = 0) ∧ r = 1 ∧ u = ((x &&& 4095), ac, lk, mq, ma, mb, ir, sw, io, dl, 0, rd, sn, md, kf, kb, cn, pf, co, ou))) := by
  refine en_i RM rfl (by decide) (Nat.le_of_ble_eq_true rfl) ?_
  intro p e s m below meth c A ls S hr hk hA hN hK hP hD hS hl
  have hl : lv_has ls 2 [(0, .ref a.1), (1, .int x)] := hl
  refine lv_aload_n S.1 S.2.1 dM_start_0 rfl (lv_at hl 0 rfl) ?_
  refine g_M_M_ready S hK hP dM_start_1 ?_
  refine lv_if_eq (tgt := 14) S.1 S.2.1 dM_start_4 (by decide) (fun g1 => ?_) (fun g1 => ?_)
  · refine lv_iconst (v := 0) S.1 S.2.1 dM_start_14 (by decide) ?_
    exact rt_z S hr hk hK hP hD hS rfl (Or.inl (⟨g1, rfl, rfl⟩)) dM_start_15
  · refine lv_aload_n S.1 S.2.1 dM_start_7 rfl (lv_at hl 0 rfl) ?_
    refine g_M_M_at S hK hP dM_start_8 ?_
    refine lv_if_eq (tgt := 16) S.1 S.2.1 dM_start_11 (by decide) (fun g2 => ?_) (fun g2 => ?_)
    · refine lv_aload_n S.1 S.2.1 dM_start_16 rfl (lv_at hl 0 rfl) ?_
      refine lv_iload_n S.1 S.2.1 dM_start_17 rfl (lv_at hl 1 rfl) ?_
      refine lv_sipush (v := 4095) S.1 S.2.1 dM_start_18 (by decide) ?_
      refine lv_iand S.1 S.2.1 dM_start_21 ?_
      refine p_M_M_pc S hK hP hD hS dM_start_22 (fun H locs hP hD hS => ?_)
      refine lv_aload_n S.1 S.2.1 dM_start_25 rfl (lv_at hl 0 rfl) ?_
      refine lv_iconst (v := 0) S.1 S.2.1 dM_start_26 (by decide) ?_
      refine p_M_M_halted S hK hP hD hS rfl rfl dM_start_27 (fun H locs hP hD hS => ?_)
      refine lv_iconst (v := 1) S.1 S.2.1 dM_start_30 (by decide) ?_
      exact rt_z S hr hk hK hP hD hS rfl (Or.inr (Or.inr (⟨g1, g2, rfl, rfl⟩))) dM_start_31
    · refine lv_iconst (v := 0) S.1 S.2.1 dM_start_14 (by decide) ?_
      exact rt_z S hr hk hK hP hD hS rfl (Or.inr (Or.inl (⟨g1, g2, rfl, rfl⟩))) dM_start_15

set_option maxHeartbeats 4000000 in
set_option maxRecDepth 100000 in
theorem c_M_switches (l : Launch) (D : va_G) (a : AR) (sz : Nat) (pc ac lk mq ma mb ir sw io dl ha rd sn md kf kb cn pf : Int32) (co ou : Nat → Int32) (x : Int32) : MV l D (wr a) (tr a) sz yM_switches cM_switches 2 0 [.ref a.1, .int x] (pc, ac, lk, mq, ma, mb, ir, sw, io, dl, ha, rd, sn, md, kf, kb, cn, pf, co, ou) (fun u => u = (pc, ac, lk, mq, ma, mb, ir, (x &&& 4095), io, dl, ha, rd, sn, md, kf, kb, cn, pf, co, ou)) := by
  refine en_v RM rfl (by decide) (Nat.le_of_ble_eq_true rfl) ?_
  intro p e s m below meth c A ls S hr hk hA hN hK hP hD hS hl
  have hl : lv_has ls 2 [(0, .ref a.1), (1, .int x)] := hl
  refine lv_aload_n S.1 S.2.1 dM_switches_0 rfl (lv_at hl 0 rfl) ?_
  refine lv_iload_n S.1 S.2.1 dM_switches_1 rfl (lv_at hl 1 rfl) ?_
  refine lv_sipush (v := 4095) S.1 S.2.1 dM_switches_2 (by decide) ?_
  refine lv_iand S.1 S.2.1 dM_switches_5 ?_
  refine p_M_M_switches S hK hP hD hS dM_switches_6 (fun H locs hP hD hS => ?_)
  exact rt_v S hr hk hK hP hD hS (rfl) dM_switches_9

set_option maxHeartbeats 4000000 in
set_option maxRecDepth 100000 in
theorem c_M_key (l : Launch) (D : va_G) (a : AR) (sz : Nat) (pc ac lk mq ma mb ir sw io dl ha rd sn md kf kb cn pf : Int32) (co ou : Nat → Int32) (x : Int32) : MV l D (wr a) (tr a) sz yM_key cM_key 2 0 [.ref a.1, .int x] (pc, ac, lk, mq, ma, mb, ir, sw, io, dl, ha, rd, sn, md, kf, kb, cn, pf, co, ou) (fun u => u = (pc, ac, lk, mq, ma, mb, ir, sw, io, dl, ha, rd, sn, md, 1, (x &&& 255), cn, pf, co, ou)) := by
  refine en_v RM rfl (by decide) (Nat.le_of_ble_eq_true rfl) ?_
  intro p e s m below meth c A ls S hr hk hA hN hK hP hD hS hl
  have hl : lv_has ls 2 [(0, .ref a.1), (1, .int x)] := hl
  refine lv_aload_n S.1 S.2.1 dM_key_0 rfl (lv_at hl 0 rfl) ?_
  refine lv_iload_n S.1 S.2.1 dM_key_1 rfl (lv_at hl 1 rfl) ?_
  refine lv_sipush (v := 255) S.1 S.2.1 dM_key_2 (by decide) ?_
  refine lv_iand S.1 S.2.1 dM_key_5 ?_
  refine p_M_M_buffer S hK hP hD hS dM_key_6 (fun H locs hP hD hS => ?_)
  refine lv_aload_n S.1 S.2.1 dM_key_9 rfl (lv_at hl 0 rfl) ?_
  refine lv_iconst (v := 1) S.1 S.2.1 dM_key_10 (by decide) ?_
  refine p_M_M_keyFlag S hK hP hD hS rfl rfl dM_key_11 (fun H locs hP hD hS => ?_)
  exact rt_v S hr hk hK hP hD hS (rfl) dM_key_14

set_option maxHeartbeats 4000000 in
set_option maxRecDepth 100000 in
theorem c_M_look (l : Launch) (D : va_G) (a : AR) (sz : Nat) (pc ac lk mq ma mb ir sw io dl ha rd sn md kf kb cn pf : Int32) (co ou : Nat → Int32) (x : Int32) : MI l D (wr a) (tr a) sz yM_look cM_look 2 (some .int) 1 [.ref a.1, .int x] (pc, ac, lk, mq, ma, mb, ir, sw, io, dl, ha, rd, sn, md, kf, kb, cn, pf, co, ou) (fun r u => ((x = 0) ∧ r = pc ∧ u = (pc, ac, lk, mq, ma, mb, ir, sw, io, dl, ha, rd, sn, md, kf, kb, cn, pf, co, ou)) ∨ ((x = 1) ∧ r = ac ∧ u = (pc, ac, lk, mq, ma, mb, ir, sw, io, dl, ha, rd, sn, md, kf, kb, cn, pf, co, ou)) ∨ ((x = 2) ∧ r = lk ∧ u = (pc, ac, lk, mq, ma, mb, ir, sw, io, dl, ha, rd, sn, md, kf, kb, cn, pf, co, ou)) ∨ ((x = 3) ∧ r = mq ∧ u = (pc, ac, lk, mq, ma, mb, ir, sw, io, dl, ha, rd, sn, md, kf, kb, cn, pf, co, ou)) ∨ ((x = 4) ∧ r = ma ∧ u = (pc, ac, lk, mq, ma, mb, ir, sw, io, dl, ha, rd, sn, md, kf, kb, cn, pf, co, ou)) ∨ ((x = 5) ∧ r = mb ∧ u = (pc, ac, lk, mq, ma, mb, ir, sw, io, dl, ha, rd, sn, md, kf, kb, cn, pf, co, ou)) ∨ ((x = 6) ∧ r = ir ∧ u = (pc, ac, lk, mq, ma, mb, ir, sw, io, dl, ha, rd, sn, md, kf, kb, cn, pf, co, ou)) ∨ ((x = 7) ∧ r = sn ∧ u = (pc, ac, lk, mq, ma, mb, ir, sw, io, dl, ha, rd, sn, md, kf, kb, cn, pf, co, ou)) ∨ ((x = 8) ∧ r = (((((if io = 0 then 0 else 1) + (if dl = 0 then 0 else 2)) + (if ha = 0 then 0 else 4)) + (if kf = 0 then 0 else 8)) + (if pf = 0 then 0 else 16)) ∧ u = (pc, ac, lk, mq, ma, mb, ir, sw, io, dl, ha, rd, sn, md, kf, kb, cn, pf, co, ou)) ∨ ((x = 9) ∧ r = kb ∧ u = (pc, ac, lk, mq, ma, mb, ir, sw, io, dl, ha, rd, sn, md, kf, kb, cn, pf, co, ou)) ∨ ((x = 10) ∧ r = md ∧ u = (pc, ac, lk, mq, ma, mb, ir, sw, io, dl, ha, rd, sn, md, kf, kb, cn, pf, co, ou)) ∨ ((¬ x = 0) ∧ (¬ x = 1) ∧ (¬ x = 2) ∧ (¬ x = 3) ∧ (¬ x = 4) ∧ (¬ x = 5) ∧ (¬ x = 6) ∧ (¬ x = 7) ∧ (¬ x = 8) ∧ (¬ x = 9) ∧ (¬ x = 10) ∧ r = (-1) ∧ u = (pc, ac, lk, mq, ma, mb, ir, sw, io, dl, ha, rd, sn, md, kf, kb, cn, pf, co, ou))) := by
  refine en_i RM rfl (by decide) (Nat.le_of_ble_eq_true rfl) ?_
  intro p e s m below meth c A ls S hr hk hA hN hK hP hD hS hl
  have hl : lv_has ls 2 [(0, .ref a.1), (1, .int x)] := hl
  refine lv_iload_n S.1 S.2.1 dM_look_0 rfl (lv_at hl 1 rfl) ?_
  by_cases g1 : x = 0
  · refine lv_tableIn (off := 59) (tgt := 60) S.1 S.2.1 dM_look_1 (by rw [g1]; decide +kernel) (by rw [g1]; decide +kernel) (by rw [g1]; decide +kernel) (by decide) ?_
    refine lv_aload_n S.1 S.2.1 dM_look_60 rfl (lv_at hl 0 rfl) ?_
    refine g_M_M_pc S hK hP dM_look_61 ?_
    exact rt_i S hr hk hK hP hD hS (Or.inl (⟨g1, rfl, rfl⟩)) dM_look_64
  by_cases g2 : x = 1
  · refine lv_tableIn (off := 64) (tgt := 65) S.1 S.2.1 dM_look_1 (by rw [g2]; decide +kernel) (by rw [g2]; decide +kernel) (by rw [g2]; decide +kernel) (by decide) ?_
    refine lv_aload_n S.1 S.2.1 dM_look_65 rfl (lv_at hl 0 rfl) ?_
    refine g_M_M_ac S hK hP dM_look_66 ?_
    exact rt_i S hr hk hK hP hD hS (Or.inr (Or.inl (⟨g2, rfl, rfl⟩))) dM_look_69
  by_cases g3 : x = 2
  · refine lv_tableIn (off := 69) (tgt := 70) S.1 S.2.1 dM_look_1 (by rw [g3]; decide +kernel) (by rw [g3]; decide +kernel) (by rw [g3]; decide +kernel) (by decide) ?_
    refine lv_aload_n S.1 S.2.1 dM_look_70 rfl (lv_at hl 0 rfl) ?_
    refine g_M_M_link S hK hP dM_look_71 ?_
    exact rt_i S hr hk hK hP hD hS (Or.inr (Or.inr (Or.inl (⟨g3, rfl, rfl⟩)))) dM_look_74
  by_cases g4 : x = 3
  · refine lv_tableIn (off := 74) (tgt := 75) S.1 S.2.1 dM_look_1 (by rw [g4]; decide +kernel) (by rw [g4]; decide +kernel) (by rw [g4]; decide +kernel) (by decide) ?_
    refine lv_aload_n S.1 S.2.1 dM_look_75 rfl (lv_at hl 0 rfl) ?_
    refine g_M_M_mq S hK hP dM_look_76 ?_
    exact rt_i S hr hk hK hP hD hS (Or.inr (Or.inr (Or.inr (Or.inl (⟨g4, rfl, rfl⟩))))) dM_look_79
  by_cases g5 : x = 4
  · refine lv_tableIn (off := 79) (tgt := 80) S.1 S.2.1 dM_look_1 (by rw [g5]; decide +kernel) (by rw [g5]; decide +kernel) (by rw [g5]; decide +kernel) (by decide) ?_
    refine lv_aload_n S.1 S.2.1 dM_look_80 rfl (lv_at hl 0 rfl) ?_
    refine g_M_M_ma S hK hP dM_look_81 ?_
    exact rt_i S hr hk hK hP hD hS (Or.inr (Or.inr (Or.inr (Or.inr (Or.inl (⟨g5, rfl, rfl⟩)))))) dM_look_84
  by_cases g6 : x = 5
  · refine lv_tableIn (off := 84) (tgt := 85) S.1 S.2.1 dM_look_1 (by rw [g6]; decide +kernel) (by rw [g6]; decide +kernel) (by rw [g6]; decide +kernel) (by decide) ?_
    refine lv_aload_n S.1 S.2.1 dM_look_85 rfl (lv_at hl 0 rfl) ?_
    refine g_M_M_mb S hK hP dM_look_86 ?_
    exact rt_i S hr hk hK hP hD hS (Or.inr (Or.inr (Or.inr (Or.inr (Or.inr (Or.inl (⟨g6, rfl, rfl⟩))))))) dM_look_89
  by_cases g7 : x = 6
  · refine lv_tableIn (off := 89) (tgt := 90) S.1 S.2.1 dM_look_1 (by rw [g7]; decide +kernel) (by rw [g7]; decide +kernel) (by rw [g7]; decide +kernel) (by decide) ?_
    refine lv_aload_n S.1 S.2.1 dM_look_90 rfl (lv_at hl 0 rfl) ?_
    refine g_M_M_ir S hK hP dM_look_91 ?_
    exact rt_i S hr hk hK hP hD hS (Or.inr (Or.inr (Or.inr (Or.inr (Or.inr (Or.inr (Or.inl (⟨g7, rfl, rfl⟩)))))))) dM_look_94
  by_cases g8 : x = 7
  · refine lv_tableIn (off := 94) (tgt := 95) S.1 S.2.1 dM_look_1 (by rw [g8]; decide +kernel) (by rw [g8]; decide +kernel) (by rw [g8]; decide +kernel) (by decide) ?_
    refine lv_aload_n S.1 S.2.1 dM_look_95 rfl (lv_at hl 0 rfl) ?_
    refine g_M_M_at S hK hP dM_look_96 ?_
    exact rt_i S hr hk hK hP hD hS (Or.inr (Or.inr (Or.inr (Or.inr (Or.inr (Or.inr (Or.inr (Or.inl (⟨g8, rfl, rfl⟩))))))))) dM_look_99
  by_cases g9 : x = 8
  · refine lv_tableIn (off := 99) (tgt := 100) S.1 S.2.1 dM_look_1 (by rw [g9]; decide +kernel) (by rw [g9]; decide +kernel) (by rw [g9]; decide +kernel) (by decide) ?_
    refine lv_aload_n S.1 S.2.1 dM_look_100 rfl (lv_at hl 0 rfl) ?_
    refine cl_i (As := []) (rest := []) S hN hK hP hD hS hA hl.1 (c_M_flags l D a _ pc ac lk mq ma mb ir sw io dl ha rd sn md kf kb cn pf co ou ) k_M_115 (rc_M hK hP) ⟨by decide, by decide⟩ rfl rfl (Nat.le_of_ble_eq_true rfl) ⟨Nat.le_refl _, Nat.le_refl _⟩ dM_look_101 (fun r u H locs hw hP hD hS => ?_)
    obtain ⟨rfl, rfl⟩ := hw
    exact rt_i S hr hk hK hP hD hS (Or.inr (Or.inr (Or.inr (Or.inr (Or.inr (Or.inr (Or.inr (Or.inr (Or.inl (⟨g9, rfl, rfl⟩)))))))))) dM_look_104
  by_cases g10 : x = 9
  · refine lv_tableIn (off := 104) (tgt := 105) S.1 S.2.1 dM_look_1 (by rw [g10]; decide +kernel) (by rw [g10]; decide +kernel) (by rw [g10]; decide +kernel) (by decide) ?_
    refine lv_aload_n S.1 S.2.1 dM_look_105 rfl (lv_at hl 0 rfl) ?_
    refine g_M_M_buffer S hK hP dM_look_106 ?_
    exact rt_i S hr hk hK hP hD hS (Or.inr (Or.inr (Or.inr (Or.inr (Or.inr (Or.inr (Or.inr (Or.inr (Or.inr (Or.inl (⟨g10, rfl, rfl⟩))))))))))) dM_look_109
  by_cases g11 : x = 10
  · refine lv_tableIn (off := 109) (tgt := 110) S.1 S.2.1 dM_look_1 (by rw [g11]; decide +kernel) (by rw [g11]; decide +kernel) (by rw [g11]; decide +kernel) (by decide) ?_
    refine lv_aload_n S.1 S.2.1 dM_look_110 rfl (lv_at hl 0 rfl) ?_
    refine g_M_M_made S hK hP dM_look_111 ?_
    exact rt_i S hr hk hK hP hD hS (Or.inr (Or.inr (Or.inr (Or.inr (Or.inr (Or.inr (Or.inr (Or.inr (Or.inr (Or.inr (Or.inl (⟨g11, rfl, rfl⟩)))))))))))) dM_look_114
  refine lv_tableOut (tgt := 115) S.1 S.2.1 dM_look_1 (by have n0 := lv_neT g1 (a := 0) (by decide +kernel); have n1 := lv_neT g2 (a := 1) (by decide +kernel); have n2 := lv_neT g3 (a := 2) (by decide +kernel); have n3 := lv_neT g4 (a := 3) (by decide +kernel); have n4 := lv_neT g5 (a := 4) (by decide +kernel); have n5 := lv_neT g6 (a := 5) (by decide +kernel); have n6 := lv_neT g7 (a := 6) (by decide +kernel); have n7 := lv_neT g8 (a := 7) (by decide +kernel); have n8 := lv_neT g9 (a := 8) (by decide +kernel); have n9 := lv_neT g10 (a := 9) (by decide +kernel); have n10 := lv_neT g11 (a := 10) (by decide +kernel); omega) (by decide) ?_
  refine lv_iconst (v := (-1)) S.1 S.2.1 dM_look_115 (by decide) ?_
  exact rt_i S hr hk hK hP hD hS (Or.inr (Or.inr (Or.inr (Or.inr (Or.inr (Or.inr (Or.inr (Or.inr (Or.inr (Or.inr (Or.inr (⟨g1, g2, g3, g4, g5, g6, g7, g8, g9, g10, g11, rfl, rfl⟩)))))))))))) dM_look_116

set_option maxHeartbeats 4000000 in
set_option maxRecDepth 100000 in
theorem c_M_printed (l : Launch) (D : va_G) (a : AR) (sz : Nat) (pc ac lk mq ma mb ir sw io dl ha rd sn md kf kb cn pf : Int32) (co ou : Nat → Int32) (x : Int32) (hn : a.2.2.2.2.2 ≤ 100) (hcn : ∃ k : Nat, k ≤ a.2.2.2.2.2 ∧ cn = nI k) : MI l D (wr a) (tr a) sz yM_printed cM_printed 2 (some .int) 0 [.ref a.1, .int x] (pc, ac, lk, mq, ma, mb, ir, sw, io, dl, ha, rd, sn, md, kf, kb, cn, pf, co, ou) (fun r u => ((x = (-1)) ∧ r = cn ∧ u = (pc, ac, lk, mq, ma, mb, ir, sw, io, dl, ha, rd, sn, md, kf, kb, cn, pf, co, ou)) ∨ ((¬ x = (-1)) ∧ (x < 0) ∧ r = (-1) ∧ u = (pc, ac, lk, mq, ma, mb, ir, sw, io, dl, ha, rd, sn, md, kf, kb, cn, pf, co, ou)) ∨ ((¬ x = (-1)) ∧ (¬ x < 0) ∧ (cn ≤ x) ∧ r = (-1) ∧ u = (pc, ac, lk, mq, ma, mb, ir, sw, io, dl, ha, rd, sn, md, kf, kb, cn, pf, co, ou)) ∨ ((¬ x = (-1)) ∧ (¬ x < 0) ∧ (¬ cn ≤ x) ∧ r = (ou x.toNatClampNeg) ∧ u = (pc, ac, lk, mq, ma, mb, ir, sw, io, dl, ha, rd, sn, md, kf, kb, cn, pf, co, ou))) := by
  refine en_i RM rfl (by decide) (Nat.le_of_ble_eq_true rfl) ?_
  intro p e s m below meth c A ls S hr hk hA hN hK hP hD hS hl
  have hl : lv_has ls 2 [(0, .ref a.1), (1, .int x)] := hl
  refine lv_iload_n S.1 S.2.1 dM_printed_0 rfl (lv_at hl 1 rfl) ?_
  refine lv_iconst (v := (-1)) S.1 S.2.1 dM_printed_1 (by decide) ?_
  refine lv_icmp_ne (tgt := 12) S.1 S.2.1 dM_printed_2 (by decide) (fun g1 => ?_) (fun g1 => ?_)
  · refine lv_iload_n S.1 S.2.1 dM_printed_12 rfl (lv_at hl 1 rfl) ?_
    refine lv_if_lt (tgt := 24) S.1 S.2.1 dM_printed_13 (by decide) (fun g2 => ?_) (fun g2 => ?_)
    · refine lv_iconst (v := (-1)) S.1 S.2.1 dM_printed_24 (by decide) ?_
      refine lv_goto (tgt := 34) S.1 S.2.1 dM_printed_25 (by decide) ?_
      exact rt_i S hr hk hK hP hD hS (Or.inr (Or.inl (⟨g1, g2, rfl, rfl⟩))) dM_printed_34
    · refine lv_iload_n S.1 S.2.1 dM_printed_16 rfl (lv_at hl 1 rfl) ?_
      refine lv_aload_n S.1 S.2.1 dM_printed_17 rfl (lv_at hl 0 rfl) ?_
      refine g_M_M_printed S hK hP dM_printed_18 ?_
      refine lv_icmp_lt (tgt := 28) S.1 S.2.1 dM_printed_21 (by decide) (fun g3 => ?_) (fun g3 => ?_)
      · refine lv_aload_n S.1 S.2.1 dM_printed_28 rfl (lv_at hl 0 rfl) ?_
        refine g_M_M_print S hK hP dM_printed_29 ?_
        refine lv_iload_n S.1 S.2.1 dM_printed_32 rfl (lv_at hl 1 rfl) ?_
        refine ld_rou S hK hP (in_up (by_in hn hcn g2 (Int32.not_le.mpr g3)) hn) dM_printed_33 ?_
        exact rt_i S hr hk hK hP hD hS (Or.inr (Or.inr (Or.inr (⟨g1, g2, (Int32.not_le.mpr g3), rfl, rfl⟩)))) dM_printed_34
      · refine lv_iconst (v := (-1)) S.1 S.2.1 dM_printed_24 (by decide) ?_
        refine lv_goto (tgt := 34) S.1 S.2.1 dM_printed_25 (by decide) ?_
        exact rt_i S hr hk hK hP hD hS (Or.inr (Or.inr (Or.inl (⟨g1, g2, (Int32.not_lt.mp g3), rfl, rfl⟩)))) dM_printed_34
  · refine lv_aload_n S.1 S.2.1 dM_printed_5 rfl (lv_at hl 0 rfl) ?_
    refine g_M_M_printed S hK hP dM_printed_6 ?_
    refine lv_goto (tgt := 34) S.1 S.2.1 dM_printed_9 (by decide) ?_
    exact rt_i S hr hk hK hP hD hS (Or.inl (⟨g1, rfl, rfl⟩)) dM_printed_34
