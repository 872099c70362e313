set_option maxHeartbeats 4000000 in
set_option maxRecDepth 100000 in
theorem c_X_init (l : Launch) (D : va_G) (a : AX) (sz : Nat) (pc ac lk mq ma mb ir sw io dl ha rd sn md kf kb cn pf : Int32) (co ou : Nat → Int32) : MV l D (wx a) (tx a) sz yX_init_ cX_init_ 1 1 [.ref a.1] (pc, ac, lk, mq, ma, mb, ir, sw, io, dl, ha, rd, sn, md, kf, kb, cn, pf, co, ou) (fun u => u = (0, 0, 0, 0, 0, 0, 0, sw, 0, 0, 0, 1, 0, 0, 0, 0, 0, 0, co, ou)) := by
  refine en_v RX rfl (by decide) (Nat.le_of_ble_eq_true rfl) ?_
  intro p e s m below meth c A ls S hr hk hA hN hK hP hD hS hl
  have hl : lv_has ls 1 [(0, .ref a.1)] := hl
  refine lv_aload_n S.1 S.2.1 dX_init__0 rfl (lv_at hl 0 rfl) ?_
  refine lv_iconst (v := 1) S.1 S.2.1 dX_init__1 (by decide) ?_
  refine p_X_X_hasMicrocode S hK hP hD hS rfl rfl dX_init__2 (fun H locs hP hD hS => ?_)
  refine lv_aload_n S.1 S.2.1 dX_init__5 rfl (lv_at hl 0 rfl) ?_
  refine lv_iconst (v := 0) S.1 S.2.1 dX_init__6 (by decide) ?_
  refine p_X_X_pc S hK hP hD hS dX_init__7 (fun H locs hP hD hS => ?_)
  refine lv_aload_n S.1 S.2.1 dX_init__10 rfl (lv_at hl 0 rfl) ?_
  refine lv_iconst (v := 0) S.1 S.2.1 dX_init__11 (by decide) ?_
  refine p_X_X_ac S hK hP hD hS dX_init__12 (fun H locs hP hD hS => ?_)
  refine lv_aload_n S.1 S.2.1 dX_init__15 rfl (lv_at hl 0 rfl) ?_
  refine lv_iconst (v := 0) S.1 S.2.1 dX_init__16 (by decide) ?_
  refine p_X_X_link S hK hP hD hS dX_init__17 (fun H locs hP hD hS => ?_)
  refine lv_aload_n S.1 S.2.1 dX_init__20 rfl (lv_at hl 0 rfl) ?_
  refine lv_iconst (v := 0) S.1 S.2.1 dX_init__21 (by decide) ?_
  refine p_X_X_mq S hK hP hD hS dX_init__22 (fun H locs hP hD hS => ?_)
  refine lv_aload_n S.1 S.2.1 dX_init__25 rfl (lv_at hl 0 rfl) ?_
  refine lv_iconst (v := 0) S.1 S.2.1 dX_init__26 (by decide) ?_
  refine p_X_X_ma S hK hP hD hS dX_init__27 (fun H locs hP hD hS => ?_)
  refine lv_aload_n S.1 S.2.1 dX_init__30 rfl (lv_at hl 0 rfl) ?_
  refine lv_iconst (v := 0) S.1 S.2.1 dX_init__31 (by decide) ?_
  refine p_X_X_mb S hK hP hD hS dX_init__32 (fun H locs hP hD hS => ?_)
  refine lv_aload_n S.1 S.2.1 dX_init__35 rfl (lv_at hl 0 rfl) ?_
  refine lv_iconst (v := 0) S.1 S.2.1 dX_init__36 (by decide) ?_
  refine p_X_X_ir S hK hP hD hS dX_init__37 (fun H locs hP hD hS => ?_)
  refine lv_aload_n S.1 S.2.1 dX_init__40 rfl (lv_at hl 0 rfl) ?_
  refine lv_iconst (v := 0) S.1 S.2.1 dX_init__41 (by decide) ?_
  refine p_X_X_ion S hK hP hD hS rfl rfl dX_init__42 (fun H locs hP hD hS => ?_)
  refine lv_aload_n S.1 S.2.1 dX_init__45 rfl (lv_at hl 0 rfl) ?_
  refine lv_iconst (v := 0) S.1 S.2.1 dX_init__46 (by decide) ?_
  refine p_X_X_delay S hK hP hD hS rfl rfl dX_init__47 (fun H locs hP hD hS => ?_)
  refine lv_aload_n S.1 S.2.1 dX_init__50 rfl (lv_at hl 0 rfl) ?_
  refine lv_iconst (v := 0) S.1 S.2.1 dX_init__51 (by decide) ?_
  refine p_X_X_halted S hK hP hD hS rfl rfl dX_init__52 (fun H locs hP hD hS => ?_)
  refine lv_aload_n S.1 S.2.1 dX_init__55 rfl (lv_at hl 0 rfl) ?_
  refine lv_iconst (v := 0) S.1 S.2.1 dX_init__56 (by decide) ?_
  refine p_X_X_stepNumber S hK hP hD hS dX_init__57 (fun H locs hP hD hS => ?_)
  refine lv_aload_n S.1 S.2.1 dX_init__60 rfl (lv_at hl 0 rfl) ?_
  refine lv_iconst (v := 0) S.1 S.2.1 dX_init__61 (by decide) ?_
  refine p_X_X_microstepsMade S hK hP hD hS dX_init__62 (fun H locs hP hD hS => ?_)
  refine lv_aload_n S.1 S.2.1 dX_init__65 rfl (lv_at hl 0 rfl) ?_
  refine g_X_X_keyboard S hK hP dX_init__66 ?_
  refine cl_vN (As := []) (rest := []) S hN hK hP hD hS hA hl.1 (c_K_reset l D a _ 0 0 0 0 0 0 0 sw 0 0 0 1 0 0 kf kb cn pf co ou ) k_X_79 (nw_X_79 hN) (rc_K hK hP) ⟨by decide, by decide⟩ rfl rfl (Nat.le_of_ble_eq_true rfl) ⟨Nat.le_refl _, Nat.le_refl _⟩ dX_init__69 (fun u H locs hw hP hD hS => ?_)
  obtain rfl := hw
  refine lv_aload_n S.1 S.2.1 dX_init__72 rfl (lv_at hl 0 rfl) ?_
  refine g_X_X_printer S hK hP dX_init__73 ?_
  refine cl_vN (As := []) (rest := []) S hN hK hP hD hS hA hl.1 (c_P_reset l D a _ 0 0 0 0 0 0 0 sw 0 0 0 1 0 0 0 0 cn pf co ou ) k_X_82 (nw_X_82 hN) (rc_P hK hP) ⟨by decide, by decide⟩ rfl rfl (Nat.le_of_ble_eq_true rfl) ⟨Nat.le_refl _, Nat.le_refl _⟩ dX_init__76 (fun u H locs hw hP hD hS => ?_)
  obtain rfl := hw
  exact rt_v S hr hk hK hP hD hS (rfl) dX_init__79

set_option maxHeartbeats 4000000 in
set_option maxRecDepth 100000 in
theorem c_X_deposit (l : Launch) (D : va_G) (a : AX) (sz : Nat) (pc ac lk mq ma mb ir sw io dl ha rd sn md kf kb cn pf : Int32) (co ou : Nat → Int32) (x v : Int32) : MI l D (wx a) (tx a) sz yX_deposit cX_deposit 3 (some .boolean) 1 [.ref a.1, .int x, .int v] (pc, ac, lk, mq, ma, mb, ir, sw, io, dl, ha, rd, sn, md, kf, kb, cn, pf, co, ou) (fun r u => ((x < 0) ∧ r = 0 ∧ u = (pc, ac, lk, mq, ma, mb, ir, sw, io, dl, ha, rd, sn, md, kf, kb, cn, pf, co, ou)) ∨ ((¬ x < 0) ∧ (4096 ≤ x) ∧ r = 0 ∧ u = (pc, ac, lk, mq, ma, mb, ir, sw, io, dl, ha, rd, sn, md, kf, kb, cn, pf, co, ou)) ∨ ((¬ x < 0) ∧ (¬ 4096 ≤ x) ∧ r = 1 ∧ u = (pc, ac, lk, mq, ma, mb, ir, sw, io, dl, ha, rd, sn, md, kf, kb, cn, pf, (upd co (x &&& 4095).toNatClampNeg (v &&& 4095)), ou))) := by
  refine en_i RX rfl (by decide) (Nat.le_of_ble_eq_true rfl) ?_
  intro p e s m below meth c A ls S hr hk hA hN hK hP hD hS hl
  have hl : lv_has ls 3 [(0, .ref a.1), (1, .int x), (2, .int v)] := hl
  refine lv_iload_n S.1 S.2.1 dX_deposit_0 rfl (lv_at hl 1 rfl) ?_
  refine cl_iS (As := [.int x]) (rest := []) S hN hK hP hD hS hA hl.1 (c_X_isAddress l D a _ pc ac lk mq ma mb ir sw io dl ha rd sn md kf kb cn pf co ou x) k_X_83 ⟨by decide, by decide⟩ rfl rfl (Nat.le_of_ble_eq_true rfl) ⟨Nat.le_refl _, Nat.le_refl _⟩ dX_deposit_1 (fun r u H locs hw hP hD hS => ?_)
  obtain ⟨g1, rfl, rfl⟩ | ⟨g2, g3, rfl, rfl⟩ | ⟨g4, g5, rfl, rfl⟩ := hw
  · refine lv_if_ne (tgt := 9) S.1 S.2.1 dX_deposit_4 (by decide) (fun g6 => absurd (by decide) g6) (fun _ => ?_)
    refine lv_iconst (v := 0) S.1 S.2.1 dX_deposit_7 (by decide) ?_
    exact rt_z S hr hk hK hP hD hS rfl (Or.inl (⟨g1, rfl, rfl⟩)) dX_deposit_8
  · refine lv_if_ne (tgt := 9) S.1 S.2.1 dX_deposit_4 (by decide) (fun g7 => absurd (by decide) g7) (fun _ => ?_)
    refine lv_iconst (v := 0) S.1 S.2.1 dX_deposit_7 (by decide) ?_
    exact rt_z S hr hk hK hP hD hS rfl (Or.inr (Or.inl (⟨g2, g3, rfl, rfl⟩))) dX_deposit_8
  · refine lv_if_ne (tgt := 9) S.1 S.2.1 dX_deposit_4 (by decide) (fun _ => ?_) (fun g8 => absurd g8 (by decide))
    refine lv_aload_n S.1 S.2.1 dX_deposit_9 rfl (lv_at hl 0 rfl) ?_
    refine lv_iload_n S.1 S.2.1 dX_deposit_10 rfl (lv_at hl 1 rfl) ?_
    refine lv_iload_n S.1 S.2.1 dX_deposit_11 rfl (lv_at hl 2 rfl) ?_
    refine cl_v (As := [.int x, .int v]) (rest := []) S hN hK hP hD hS hA hl.1 (c_X_write l D a _ pc ac lk mq ma mb ir sw io dl ha rd sn md kf kb cn pf co ou x v) k_X_87 (rc_X hK hP) ⟨by decide, by decide⟩ rfl rfl (Nat.le_of_ble_eq_true rfl) ⟨Nat.le_refl _, Nat.le_refl _⟩ dX_deposit_12 (fun u H locs hw hP hD hS => ?_)
    obtain rfl := hw
    refine lv_iconst (v := 1) S.1 S.2.1 dX_deposit_15 (by decide) ?_
    exact rt_z S hr hk hK hP hD hS rfl (Or.inr (Or.inr (⟨g4, g5, rfl, rfl⟩))) dX_deposit_16

set_option maxHeartbeats 4000000 in
set_option maxRecDepth 100000 in
theorem c_X_examine (l : Launch) (D : va_G) (a : AX) (sz : Nat) (pc ac lk mq ma mb ir sw io dl ha rd sn md kf kb cn pf : Int32) (co ou : Nat → Int32) (x : Int32) : MI l D (wx a) (tx a) sz yX_examine cX_examine 2 (some .int) 1 [.ref a.1, .int x] (pc, ac, lk, mq, ma, mb, ir, sw, io, dl, ha, rd, sn, md, kf, kb, cn, pf, co, ou) (fun r u => ((x < 0) ∧ r = (-1) ∧ u = (pc, ac, lk, mq, ma, mb, ir, sw, io, dl, ha, rd, sn, md, kf, kb, cn, pf, co, ou)) ∨ ((¬ x < 0) ∧ (4096 ≤ x) ∧ r = (-1) ∧ u = (pc, ac, lk, mq, ma, mb, ir, sw, io, dl, ha, rd, sn, md, kf, kb, cn, pf, co, ou)) ∨ ((¬ x < 0) ∧ (¬ 4096 ≤ x) ∧ r = (co (x &&& 4095).toNatClampNeg) ∧ u = (pc, ac, lk, mq, ma, mb, ir, sw, io, dl, ha, rd, sn, md, kf, kb, cn, pf, co, ou))) := by
  refine en_i RX rfl (by decide) (Nat.le_of_ble_eq_true rfl) ?_
  intro p e s m below meth c A ls S hr hk hA hN hK hP hD hS hl
  have hl : lv_has ls 2 [(0, .ref a.1), (1, .int x)] := hl
  refine lv_iload_n S.1 S.2.1 dX_examine_0 rfl (lv_at hl 1 rfl) ?_
  refine cl_iS (As := [.int x]) (rest := []) S hN hK hP hD hS hA hl.1 (c_X_isAddress l D a _ pc ac lk mq ma mb ir sw io dl ha rd sn md kf kb cn pf co ou x) k_X_83 ⟨by decide, by decide⟩ rfl rfl (Nat.le_of_ble_eq_true rfl) ⟨Nat.le_refl _, Nat.le_refl _⟩ dX_examine_1 (fun r u H locs hw hP hD hS => ?_)
  obtain ⟨g1, rfl, rfl⟩ | ⟨g2, g3, rfl, rfl⟩ | ⟨g4, g5, rfl, rfl⟩ := hw
  · refine lv_if_eq (tgt := 15) S.1 S.2.1 dX_examine_4 (by decide) (fun _ => ?_) (fun g6 => absurd (by decide) g6)
    refine lv_iconst (v := (-1)) S.1 S.2.1 dX_examine_15 (by decide) ?_
    exact rt_i S hr hk hK hP hD hS (Or.inl (⟨g1, rfl, rfl⟩)) dX_examine_16
  · refine lv_if_eq (tgt := 15) S.1 S.2.1 dX_examine_4 (by decide) (fun _ => ?_) (fun g7 => absurd (by decide) g7)
    refine lv_iconst (v := (-1)) S.1 S.2.1 dX_examine_15 (by decide) ?_
    exact rt_i S hr hk hK hP hD hS (Or.inr (Or.inl (⟨g2, g3, rfl, rfl⟩))) dX_examine_16
  · refine lv_if_eq (tgt := 15) S.1 S.2.1 dX_examine_4 (by decide) (fun g8 => absurd g8 (by decide)) (fun _ => ?_)
    refine lv_aload_n S.1 S.2.1 dX_examine_7 rfl (lv_at hl 0 rfl) ?_
    refine lv_iload_n S.1 S.2.1 dX_examine_8 rfl (lv_at hl 1 rfl) ?_
    refine cl_i (As := [.int x]) (rest := []) S hN hK hP hD hS hA hl.1 (c_X_read l D a _ pc ac lk mq ma mb ir sw io dl ha rd sn md kf kb cn pf co ou x) k_X_91 (rc_X hK hP) ⟨by decide, by decide⟩ rfl rfl (Nat.le_of_ble_eq_true rfl) ⟨Nat.le_refl _, Nat.le_refl _⟩ dX_examine_9 (fun r u H locs hw hP hD hS => ?_)
    obtain ⟨rfl, rfl⟩ := hw
    refine lv_goto (tgt := 16) S.1 S.2.1 dX_examine_12 (by decide) ?_
    exact rt_i S hr hk hK hP hD hS (Or.inr (Or.inr (⟨g4, g5, rfl, rfl⟩))) dX_examine_16

set_option maxHeartbeats 4000000 in
set_option maxRecDepth 100000 in
theorem c_X_start (l : Launch) (D : va_G) (a : AX) (sz : Nat) (pc ac lk mq ma mb ir sw io dl ha rd sn md kf kb cn pf : Int32) (co ou : Nat → Int32) (x : Int32) : MI l D (wx a) (tx a) sz yX_start cX_start 2 (some .boolean) 0 [.ref a.1, .int x] (pc, ac, lk, mq, ma, mb, ir, sw, io, dl, ha, rd, sn, md, kf, kb, cn, pf, co, ou) (fun r u => ((rd = 0) ∧ r = 0 ∧ u = (pc, ac, lk, mq, ma, mb, ir, sw, io, dl, ha, rd, sn, md, kf, kb, cn, pf, co, ou)) ∨ ((¬ rd = 0) ∧ (¬ sn = 0) ∧ r = 0 ∧ u = (pc, ac, lk, mq, ma, mb, ir, sw, io, dl, ha, rd, sn, md, kf, kb, cn, pf, co, ou)) ∨ ((¬ rd = 0) ∧ (sn = 0) ∧ r = 1 ∧ u = ((x &&& 4095), ac, lk, mq, ma, mb, ir, sw, io, dl, 0, rd, sn, md, kf, kb, cn, pf, co, ou))) := by
  refine en_i RX rfl (by decide) (Nat.le_of_ble_eq_true rfl) ?_
  intro p e s m below meth c A ls S hr hk hA hN hK hP hD hS hl
  have hl : lv_has ls 2 [(0, .ref a.1), (1, .int x)] := hl
  refine lv_aload_n S.1 S.2.1 dX_start_0 rfl (lv_at hl 0 rfl) ?_
  refine g_X_X_hasMicrocode S hK hP dX_start_1 ?_
  refine lv_if_eq (tgt := 14) S.1 S.2.1 dX_start_4 (by decide) (fun g1 => ?_) (fun g1 => ?_)
  · refine lv_iconst (v := 0) S.1 S.2.1 dX_start_14 (by decide) ?_
    exact rt_z S hr hk hK hP hD hS rfl (Or.inl (⟨g1, rfl, rfl⟩)) dX_start_15
  · refine lv_aload_n S.1 S.2.1 dX_start_7 rfl (lv_at hl 0 rfl) ?_
    refine g_X_X_stepNumber S hK hP dX_start_8 ?_
    refine lv_if_eq (tgt := 16) S.1 S.2.1 dX_start_11 (by decide) (fun g2 => ?_) (fun g2 => ?_)
    · refine lv_aload_n S.1 S.2.1 dX_start_16 rfl (lv_at hl 0 rfl) ?_
      refine lv_iload_n S.1 S.2.1 dX_start_17 rfl (lv_at hl 1 rfl) ?_
      refine lv_sipush (v := 4095) S.1 S.2.1 dX_start_18 (by decide) ?_
      refine lv_iand S.1 S.2.1 dX_start_21 ?_
      refine p_X_X_pc S hK hP hD hS dX_start_22 (fun H locs hP hD hS => ?_)
      refine lv_aload_n S.1 S.2.1 dX_start_25 rfl (lv_at hl 0 rfl) ?_
      refine lv_iconst (v := 0) S.1 S.2.1 dX_start_26 (by decide) ?_
      refine p_X_X_halted S hK hP hD hS rfl rfl dX_start_27 (fun H locs hP hD hS => ?_)
      refine lv_iconst (v := 1) S.1 S.2.1 dX_start_30 (by decide) ?_
      exact rt_z S hr hk hK hP hD hS rfl (Or.inr (Or.inr (⟨g1, g2, rfl, rfl⟩))) dX_start_31
    · refine lv_iconst (v := 0) S.1 S.2.1 dX_start_14 (by decide) ?_
      exact rt_z S hr hk hK hP hD hS rfl (Or.inr (Or.inl (⟨g1, g2, rfl, rfl⟩))) dX_start_15

set_option maxHeartbeats 4000000 in
set_option maxRecDepth 100000 in
theorem c_X_switches (l : Launch) (D : va_G) (a : AX) (sz : Nat) (pc ac lk mq ma mb ir sw io dl ha rd sn md kf kb cn pf : Int32) (co ou : Nat → Int32) (x : Int32) : MV l D (wx a) (tx a) sz yX_switches cX_switches 2 0 [.ref a.1, .int x] (pc, ac, lk, mq, ma, mb, ir, sw, io, dl, ha, rd, sn, md, kf, kb, cn, pf, co, ou) (fun u => u = (pc, ac, lk, mq, ma, mb, ir, (x &&& 4095), io, dl, ha, rd, sn, md, kf, kb, cn, pf, co, ou)) := by
  refine en_v RX rfl (by decide) (Nat.le_of_ble_eq_true rfl) ?_
  intro p e s m below meth c A ls S hr hk hA hN hK hP hD hS hl
  have hl : lv_has ls 2 [(0, .ref a.1), (1, .int x)] := hl
  refine lv_aload_n S.1 S.2.1 dX_switches_0 rfl (lv_at hl 0 rfl) ?_
  refine lv_iload_n S.1 S.2.1 dX_switches_1 rfl (lv_at hl 1 rfl) ?_
  refine lv_sipush (v := 4095) S.1 S.2.1 dX_switches_2 (by decide) ?_
  refine lv_iand S.1 S.2.1 dX_switches_5 ?_
  refine p_X_X_switchWord S hK hP hD hS dX_switches_6 (fun H locs hP hD hS => ?_)
  exact rt_v S hr hk hK hP hD hS (rfl) dX_switches_9

set_option maxHeartbeats 4000000 in
set_option maxRecDepth 100000 in
theorem c_X_key (l : Launch) (D : va_G) (a : AX) (sz : Nat) (pc ac lk mq ma mb ir sw io dl ha rd sn md kf kb cn pf : Int32) (co ou : Nat → Int32) (x : Int32) : MV l D (wx a) (tx a) sz yX_key cX_key 2 1 [.ref a.1, .int x] (pc, ac, lk, mq, ma, mb, ir, sw, io, dl, ha, rd, sn, md, kf, kb, cn, pf, co, ou) (fun u => u = (pc, ac, lk, mq, ma, mb, ir, sw, io, dl, ha, rd, sn, md, 1, (x &&& 255), cn, pf, co, ou)) := by
  refine en_v RX rfl (by decide) (Nat.le_of_ble_eq_true rfl) ?_
  intro p e s m below meth c A ls S hr hk hA hN hK hP hD hS hl
  have hl : lv_has ls 2 [(0, .ref a.1), (1, .int x)] := hl
  refine lv_aload_n S.1 S.2.1 dX_key_0 rfl (lv_at hl 0 rfl) ?_
  refine g_X_X_keyboard S hK hP dX_key_1 ?_
  refine lv_iload_n S.1 S.2.1 dX_key_4 rfl (lv_at hl 1 rfl) ?_
  refine cl_vN (As := [.int x]) (rest := []) S hN hK hP hD hS hA hl.1 (c_K_press l D a _ pc ac lk mq ma mb ir sw io dl ha rd sn md kf kb cn pf co ou x) k_X_98 (nw_X_98 hN) (rc_K hK hP) ⟨by decide, by decide⟩ rfl rfl (Nat.le_of_ble_eq_true rfl) ⟨Nat.le_refl _, Nat.le_refl _⟩ dX_key_5 (fun u H locs hw hP hD hS => ?_)
  obtain rfl := hw
  exact rt_v S hr hk hK hP hD hS (rfl) dX_key_8

set_option maxHeartbeats 4000000 in
set_option maxRecDepth 100000 in
theorem c_X_look (l : Launch) (D : va_G) (a : AX) (sz : Nat) (pc ac lk mq ma mb ir sw io dl ha rd sn md kf kb cn pf : Int32) (co ou : Nat → Int32) (x : Int32) : MI l D (wx a) (tx a) sz yX_look cX_look 2 (some .int) 1 [.ref a.1, .int x] (pc, ac, lk, mq, ma, mb, ir, sw, io, dl, ha, rd, sn, md, kf, kb, cn, pf, co, ou) (fun r u => ((x = 0) ∧ r = pc ∧ u = (pc, ac, lk, mq, ma, mb, ir, sw, io, dl, ha, rd, sn, md, kf, kb, cn, pf, co, ou)) ∨ ((x = 1) ∧ r = ac ∧ u = (pc, ac, lk, mq, ma, mb, ir, sw, io, dl, ha, rd, sn, md, kf, kb, cn, pf, co, ou)) ∨ ((x = 2) ∧ r = lk ∧ u = (pc, ac, lk, mq, ma, mb, ir, sw, io, dl, ha, rd, sn, md, kf, kb, cn, pf, co, ou)) ∨ ((x = 3) ∧ r = mq ∧ u = (pc, ac, lk, mq, ma, mb, ir, sw, io, dl, ha, rd, sn, md, kf, kb, cn, pf, co, ou)) ∨ ((x = 4) ∧ r = ma ∧ u = (pc, ac, lk, mq, ma, mb, ir, sw, io, dl, ha, rd, sn, md, kf, kb, cn, pf, co, ou)) ∨ ((x = 5) ∧ r = mb ∧ u = (pc, ac, lk, mq, ma, mb, ir, sw, io, dl, ha, rd, sn, md, kf, kb, cn, pf, co, ou)) ∨ ((x = 6) ∧ r = ir ∧ u = (pc, ac, lk, mq, ma, mb, ir, sw, io, dl, ha, rd, sn, md, kf, kb, cn, pf, co, ou)) ∨ ((x = 7) ∧ r = sn ∧ u = (pc, ac, lk, mq, ma, mb, ir, sw, io, dl, ha, rd, sn, md, kf, kb, cn, pf, co, ou)) ∨ ((x = 8) ∧ r = (((((if io = 0 then 0 else 1) + (if dl = 0 then 0 else 2)) + (if ha = 0 then 0 else 4)) + (if kf = 0 then 0 else 8)) + (if pf = 0 then 0 else 16)) ∧ u = (pc, ac, lk, mq, ma, mb, ir, sw, io, dl, ha, rd, sn, md, kf, kb, cn, pf, co, ou)) ∨ ((x = 9) ∧ r = kb ∧ u = (pc, ac, lk, mq, ma, mb, ir, sw, io, dl, ha, rd, sn, md, kf, kb, cn, pf, co, ou)) ∨ ((x = 10) ∧ r = md ∧ u = (pc, ac, lk, mq, ma, mb, ir, sw, io, dl, ha, rd, sn, md, kf, kb, cn, pf, co, ou)) ∨ ((¬ x = 0) ∧ (¬ x = 1) ∧ (¬ x = 2) ∧ (¬ x = 3) ∧ (¬ x = 4) ∧ (¬ x = 5) ∧ (¬ x = 6) ∧ (¬ x = 7) ∧ (¬ x = 8) ∧ (¬ x = 9) ∧ (¬ x = 10) ∧ r = (-1) ∧ u = (pc, ac, lk, mq, ma, mb, ir, sw, io, dl, ha, rd, sn, md, kf, kb, cn, pf, co, ou))) := by
  refine en_i RX rfl (by decide) (Nat.le_of_ble_eq_true rfl) ?_
  intro p e s m below meth c A ls S hr hk hA hN hK hP hD hS hl
  have hl : lv_has ls 2 [(0, .ref a.1), (1, .int x)] := hl
  refine lv_iload_n S.1 S.2.1 dX_look_0 rfl (lv_at hl 1 rfl) ?_
  by_cases g1 : x = 0
  · refine lv_tableIn (off := 59) (tgt := 60) S.1 S.2.1 dX_look_1 (by rw [g1]; decide +kernel) (by rw [g1]; decide +kernel) (by rw [g1]; decide +kernel) (by decide) ?_
    refine lv_aload_n S.1 S.2.1 dX_look_60 rfl (lv_at hl 0 rfl) ?_
    refine g_X_X_pc S hK hP dX_look_61 ?_
    exact rt_i S hr hk hK hP hD hS (Or.inl (⟨g1, rfl, rfl⟩)) dX_look_64
  by_cases g2 : x = 1
  · refine lv_tableIn (off := 64) (tgt := 65) S.1 S.2.1 dX_look_1 (by rw [g2]; decide +kernel) (by rw [g2]; decide +kernel) (by rw [g2]; decide +kernel) (by decide) ?_
    refine lv_aload_n S.1 S.2.1 dX_look_65 rfl (lv_at hl 0 rfl) ?_
    refine g_X_X_ac S hK hP dX_look_66 ?_
    exact rt_i S hr hk hK hP hD hS (Or.inr (Or.inl (⟨g2, rfl, rfl⟩))) dX_look_69
  by_cases g3 : x = 2
  · refine lv_tableIn (off := 69) (tgt := 70) S.1 S.2.1 dX_look_1 (by rw [g3]; decide +kernel) (by rw [g3]; decide +kernel) (by rw [g3]; decide +kernel) (by decide) ?_
    refine lv_aload_n S.1 S.2.1 dX_look_70 rfl (lv_at hl 0 rfl) ?_
    refine g_X_X_link S hK hP dX_look_71 ?_
    exact rt_i S hr hk hK hP hD hS (Or.inr (Or.inr (Or.inl (⟨g3, rfl, rfl⟩)))) dX_look_74
  by_cases g4 : x = 3
  · refine lv_tableIn (off := 74) (tgt := 75) S.1 S.2.1 dX_look_1 (by rw [g4]; decide +kernel) (by rw [g4]; decide +kernel) (by rw [g4]; decide +kernel) (by decide) ?_
    refine lv_aload_n S.1 S.2.1 dX_look_75 rfl (lv_at hl 0 rfl) ?_
    refine g_X_X_mq S hK hP dX_look_76 ?_
    exact rt_i S hr hk hK hP hD hS (Or.inr (Or.inr (Or.inr (Or.inl (⟨g4, rfl, rfl⟩))))) dX_look_79
  by_cases g5 : x = 4
  · refine lv_tableIn (off := 79) (tgt := 80) S.1 S.2.1 dX_look_1 (by rw [g5]; decide +kernel) (by rw [g5]; decide +kernel) (by rw [g5]; decide +kernel) (by decide) ?_
    refine lv_aload_n S.1 S.2.1 dX_look_80 rfl (lv_at hl 0 rfl) ?_
    refine g_X_X_ma S hK hP dX_look_81 ?_
    exact rt_i S hr hk hK hP hD hS (Or.inr (Or.inr (Or.inr (Or.inr (Or.inl (⟨g5, rfl, rfl⟩)))))) dX_look_84
  by_cases g6 : x = 5
  · refine lv_tableIn (off := 84) (tgt := 85) S.1 S.2.1 dX_look_1 (by rw [g6]; decide +kernel) (by rw [g6]; decide +kernel) (by rw [g6]; decide +kernel) (by decide) ?_
    refine lv_aload_n S.1 S.2.1 dX_look_85 rfl (lv_at hl 0 rfl) ?_
    refine g_X_X_mb S hK hP dX_look_86 ?_
    exact rt_i S hr hk hK hP hD hS (Or.inr (Or.inr (Or.inr (Or.inr (Or.inr (Or.inl (⟨g6, rfl, rfl⟩))))))) dX_look_89
  by_cases g7 : x = 6
  · refine lv_tableIn (off := 89) (tgt := 90) S.1 S.2.1 dX_look_1 (by rw [g7]; decide +kernel) (by rw [g7]; decide +kernel) (by rw [g7]; decide +kernel) (by decide) ?_
    refine lv_aload_n S.1 S.2.1 dX_look_90 rfl (lv_at hl 0 rfl) ?_
    refine g_X_X_ir S hK hP dX_look_91 ?_
    exact rt_i S hr hk hK hP hD hS (Or.inr (Or.inr (Or.inr (Or.inr (Or.inr (Or.inr (Or.inl (⟨g7, rfl, rfl⟩)))))))) dX_look_94
  by_cases g8 : x = 7
  · refine lv_tableIn (off := 94) (tgt := 95) S.1 S.2.1 dX_look_1 (by rw [g8]; decide +kernel) (by rw [g8]; decide +kernel) (by rw [g8]; decide +kernel) (by decide) ?_
    refine lv_aload_n S.1 S.2.1 dX_look_95 rfl (lv_at hl 0 rfl) ?_
    refine g_X_X_stepNumber S hK hP dX_look_96 ?_
    exact rt_i S hr hk hK hP hD hS (Or.inr (Or.inr (Or.inr (Or.inr (Or.inr (Or.inr (Or.inr (Or.inl (⟨g8, rfl, rfl⟩))))))))) dX_look_99
  by_cases g9 : x = 8
  · refine lv_tableIn (off := 99) (tgt := 100) S.1 S.2.1 dX_look_1 (by rw [g9]; decide +kernel) (by rw [g9]; decide +kernel) (by rw [g9]; decide +kernel) (by decide) ?_
    refine lv_aload_n S.1 S.2.1 dX_look_100 rfl (lv_at hl 0 rfl) ?_
    refine cl_i (As := []) (rest := []) S hN hK hP hD hS hA hl.1 (c_X_conditions l D a _ pc ac lk mq ma mb ir sw io dl ha rd sn md kf kb cn pf co ou ) k_X_115 (rc_X hK hP) ⟨by decide, by decide⟩ rfl rfl (Nat.le_of_ble_eq_true rfl) ⟨Nat.le_refl _, Nat.le_refl _⟩ dX_look_101 (fun r u H locs hw hP hD hS => ?_)
    obtain ⟨rfl, rfl⟩ := hw
    exact rt_i S hr hk hK hP hD hS (Or.inr (Or.inr (Or.inr (Or.inr (Or.inr (Or.inr (Or.inr (Or.inr (Or.inl (⟨g9, rfl, rfl⟩)))))))))) dX_look_104
  by_cases g10 : x = 9
  · refine lv_tableIn (off := 104) (tgt := 105) S.1 S.2.1 dX_look_1 (by rw [g10]; decide +kernel) (by rw [g10]; decide +kernel) (by rw [g10]; decide +kernel) (by decide) ?_
    refine lv_aload_n S.1 S.2.1 dX_look_105 rfl (lv_at hl 0 rfl) ?_
    refine g_X_X_keyboard S hK hP dX_look_106 ?_
    refine g_X_K_buffer S hN hK hP dX_look_109 ?_
    exact rt_i S hr hk hK hP hD hS (Or.inr (Or.inr (Or.inr (Or.inr (Or.inr (Or.inr (Or.inr (Or.inr (Or.inr (Or.inl (⟨g10, rfl, rfl⟩))))))))))) dX_look_112
  by_cases g11 : x = 10
  · refine lv_tableIn (off := 112) (tgt := 113) S.1 S.2.1 dX_look_1 (by rw [g11]; decide +kernel) (by rw [g11]; decide +kernel) (by rw [g11]; decide +kernel) (by decide) ?_
    refine lv_aload_n S.1 S.2.1 dX_look_113 rfl (lv_at hl 0 rfl) ?_
    refine g_X_X_microstepsMade S hK hP dX_look_114 ?_
    exact rt_i S hr hk hK hP hD hS (Or.inr (Or.inr (Or.inr (Or.inr (Or.inr (Or.inr (Or.inr (Or.inr (Or.inr (Or.inr (Or.inl (⟨g11, rfl, rfl⟩)))))))))))) dX_look_117
  refine lv_tableOut (tgt := 118) S.1 S.2.1 dX_look_1 (by have n0 := lv_neT g1 (a := 0) (by decide +kernel); have n1 := lv_neT g2 (a := 1) (by decide +kernel); have n2 := lv_neT g3 (a := 2) (by decide +kernel); have n3 := lv_neT g4 (a := 3) (by decide +kernel); have n4 := lv_neT g5 (a := 4) (by decide +kernel); have n5 := lv_neT g6 (a := 5) (by decide +kernel); have n6 := lv_neT g7 (a := 6) (by decide +kernel); have n7 := lv_neT g8 (a := 7) (by decide +kernel); have n8 := lv_neT g9 (a := 8) (by decide +kernel); have n9 := lv_neT g10 (a := 9) (by decide +kernel); have n10 := lv_neT g11 (a := 10) (by decide +kernel); omega) (by decide) ?_
  refine lv_iconst (v := (-1)) S.1 S.2.1 dX_look_118 (by decide) ?_
  exact rt_i S hr hk hK hP hD hS (Or.inr (Or.inr (Or.inr (Or.inr (Or.inr (Or.inr (Or.inr (Or.inr (Or.inr (Or.inr (Or.inr (⟨g1, g2, g3, g4, g5, g6, g7, g8, g9, g10, g11, rfl, rfl⟩)))))))))))) dX_look_119

set_option maxHeartbeats 4000000 in
set_option maxRecDepth 100000 in
theorem c_P_byteAt (l : Launch) (D : va_G) (a : AX) (sz : Nat) (pc ac lk mq ma mb ir sw io dl ha rd sn md kf kb cn pf : Int32) (co ou : Nat → Int32) (x : Int32) (hn : a.2.2.2.2.2.2.2 ≤ 100) (hcn : ∃ k : Nat, k ≤ a.2.2.2.2.2.2.2 ∧ cn = nI k) : MI l D (wx a) (tx a) sz yP_byteAt cP_byteAt 2 (some .int) 0 [.ref a.2.2.2.1, .int x] (pc, ac, lk, mq, ma, mb, ir, sw, io, dl, ha, rd, sn, md, kf, kb, cn, pf, co, ou) (fun r u => ((x < 0) ∧ r = (-1) ∧ u = (pc, ac, lk, mq, ma, mb, ir, sw, io, dl, ha, rd, sn, md, kf, kb, cn, pf, co, ou)) ∨ ((¬ x < 0) ∧ (cn ≤ x) ∧ r = (-1) ∧ u = (pc, ac, lk, mq, ma, mb, ir, sw, io, dl, ha, rd, sn, md, kf, kb, cn, pf, co, ou)) ∨ ((¬ x < 0) ∧ (¬ cn ≤ x) ∧ r = (ou x.toNatClampNeg) ∧ u = (pc, ac, lk, mq, ma, mb, ir, sw, io, dl, ha, rd, sn, md, kf, kb, cn, pf, co, ou))) := by
  refine en_i RP rfl (by decide) (Nat.le_of_ble_eq_true rfl) ?_
  intro p e s m below meth c A ls S hr hk hA hN hK hP hD hS hl
  have hl : lv_has ls 2 [(0, .ref a.2.2.2.1), (1, .int x)] := hl
  refine lv_iload_n S.1 S.2.1 dP_byteAt_0 rfl (lv_at hl 1 rfl) ?_
  refine lv_if_lt (tgt := 21) S.1 S.2.1 dP_byteAt_1 (by decide) (fun g1 => ?_) (fun g1 => ?_)
  · refine lv_iconst (v := (-1)) S.1 S.2.1 dP_byteAt_21 (by decide) ?_
    exact rt_i S hr hk hK hP hD hS (Or.inl (⟨g1, rfl, rfl⟩)) dP_byteAt_22
  · refine lv_iload_n S.1 S.2.1 dP_byteAt_4 rfl (lv_at hl 1 rfl) ?_
    refine lv_aload_n S.1 S.2.1 dP_byteAt_5 rfl (lv_at hl 0 rfl) ?_
    refine g_P_P_count S hK hP dP_byteAt_6 ?_
    refine lv_icmp_ge (tgt := 21) S.1 S.2.1 dP_byteAt_9 (by decide) (fun g2 => ?_) (fun g2 => ?_)
    · refine lv_iconst (v := (-1)) S.1 S.2.1 dP_byteAt_21 (by decide) ?_
      exact rt_i S hr hk hK hP hD hS (Or.inr (Or.inl (⟨g1, g2, rfl, rfl⟩))) dP_byteAt_22
    · refine lv_aload_n S.1 S.2.1 dP_byteAt_12 rfl (lv_at hl 0 rfl) ?_
      refine g_P_P_bytes S hK hP dP_byteAt_13 ?_
      refine lv_iload_n S.1 S.2.1 dP_byteAt_16 rfl (lv_at hl 1 rfl) ?_
      refine ld_xou S hK hP (by_in hn hcn g1 g2) dP_byteAt_17 ?_
      refine lv_goto (tgt := 22) S.1 S.2.1 dP_byteAt_18 (by decide) ?_
      exact rt_i S hr hk hK hP hD hS (Or.inr (Or.inr (⟨g1, g2, rfl, rfl⟩))) dP_byteAt_22

set_option maxHeartbeats 4000000 in
set_option maxRecDepth 100000 in
theorem c_X_printed (l : Launch) (D : va_G) (a : AX) (sz : Nat) (pc ac lk mq ma mb ir sw io dl ha rd sn md kf kb cn pf : Int32) (co ou : Nat → Int32) (x : Int32) (hn : a.2.2.2.2.2.2.2 ≤ 100) (hcn : ∃ k : Nat, k ≤ a.2.2.2.2.2.2.2 ∧ cn = nI k) : MI l D (wx a) (tx a) sz yX_printed cX_printed 2 (some .int) 1 [.ref a.1, .int x] (pc, ac, lk, mq, ma, mb, ir, sw, io, dl, ha, rd, sn, md, kf, kb, cn, pf, co, ou) (fun r u => ((x = (-1)) ∧ r = cn ∧ u = (pc, ac, lk, mq, ma, mb, ir, sw, io, dl, ha, rd, sn, md, kf, kb, cn, pf, co, ou)) ∨ ((¬ x = (-1)) ∧ (x < 0) ∧ r = (-1) ∧ u = (pc, ac, lk, mq, ma, mb, ir, sw, io, dl, ha, rd, sn, md, kf, kb, cn, pf, co, ou)) ∨ ((¬ x = (-1)) ∧ (¬ x < 0) ∧ (cn ≤ x) ∧ r = (-1) ∧ u = (pc, ac, lk, mq, ma, mb, ir, sw, io, dl, ha, rd, sn, md, kf, kb, cn, pf, co, ou)) ∨ ((¬ x = (-1)) ∧ (¬ x < 0) ∧ (¬ cn ≤ x) ∧ r = (ou x.toNatClampNeg) ∧ u = (pc, ac, lk, mq, ma, mb, ir, sw, io, dl, ha, rd, sn, md, kf, kb, cn, pf, co, ou))) := by
  refine en_i RX rfl (by decide) (Nat.le_of_ble_eq_true rfl) ?_
  intro p e s m below meth c A ls S hr hk hA hN hK hP hD hS hl
  have hl : lv_has ls 2 [(0, .ref a.1), (1, .int x)] := hl
  refine lv_iload_n S.1 S.2.1 dX_printed_0 rfl (lv_at hl 1 rfl) ?_
  refine lv_iconst (v := (-1)) S.1 S.2.1 dX_printed_1 (by decide) ?_
  refine lv_icmp_ne (tgt := 15) S.1 S.2.1 dX_printed_2 (by decide) (fun g1 => ?_) (fun g1 => ?_)
  · refine lv_aload_n S.1 S.2.1 dX_printed_15 rfl (lv_at hl 0 rfl) ?_
    refine g_X_X_printer S hK hP dX_printed_16 ?_
    refine lv_iload_n S.1 S.2.1 dX_printed_19 rfl (lv_at hl 1 rfl) ?_
    refine cl_iN (As := [.int x]) (rest := []) S hN hK hP hD hS hA hl.1 (c_P_byteAt l D a _ pc ac lk mq ma mb ir sw io dl ha rd sn md kf kb cn pf co ou x hn hcn) k_X_124 (nw_X_124 hN) (rc_P hK hP) ⟨by decide, by decide⟩ rfl rfl (Nat.le_of_ble_eq_true rfl) ⟨Nat.le_refl _, Nat.le_refl _⟩ dX_printed_20 (fun r u H locs hw hP hD hS => ?_)
    obtain ⟨g2, rfl, rfl⟩ | ⟨g3, g4, rfl, rfl⟩ | ⟨g5, g6, rfl, rfl⟩ := hw
    · exact rt_i S hr hk hK hP hD hS (Or.inr (Or.inl (⟨g1, g2, rfl, rfl⟩))) dX_printed_23
    · exact rt_i S hr hk hK hP hD hS (Or.inr (Or.inr (Or.inl (⟨g1, g3, g4, rfl, rfl⟩)))) dX_printed_23
    · exact rt_i S hr hk hK hP hD hS (Or.inr (Or.inr (Or.inr (⟨g1, g5, g6, rfl, rfl⟩)))) dX_printed_23
  · refine lv_aload_n S.1 S.2.1 dX_printed_5 rfl (lv_at hl 0 rfl) ?_
    refine g_X_X_printer S hK hP dX_printed_6 ?_
    refine g_X_P_count S hN hK hP dX_printed_9 ?_
    refine lv_goto (tgt := 23) S.1 S.2.1 dX_printed_12 (by decide) ?_
    exact rt_i S hr hk hK hP hD hS (Or.inl (⟨g1, rfl, rfl⟩)) dX_printed_23
