set_option maxHeartbeats 4000000 in
set_option maxRecDepth 100000 in
theorem c_M_bit (l : Launch) (D : va_G) (a : AR) (sz : Nat) (pc ac lk mq ma mb ir sw io dl ha rd sn md kf kb cn pf : Int32) (co ou : Nat → Int32) (b : Int32) : MI l D (wr a) (tr a) sz yM_bit cM_bit 2 (some .boolean) 0 [.ref a.1, .int b] (pc, ac, lk, mq, ma, mb, ir, sw, io, dl, ha, rd, sn, md, kf, kb, cn, pf, co, ou) (fun r u => (((ir &&& b) = 0) ∧ r = 0 ∧ u = (pc, ac, lk, mq, ma, mb, ir, sw, io, dl, ha, rd, sn, md, kf, kb, cn, pf, co, ou)) ∨ ((¬ (ir &&& b) = 0) ∧ r = 1 ∧ u = (pc, ac, lk, mq, ma, mb, ir, sw, io, dl, ha, rd, sn, md, kf, kb, cn, pf, co, ou))) := by
  refine en_i RM rfl (by decide) (Nat.le_of_ble_eq_true rfl) ?_
  intro p e s m below meth c A ls S hr hk hA hN hK hP hD hS hl
  have hl : lv_has ls 2 [(0, .ref a.1), (1, .int b)] := hl
  refine lv_aload_n S.1 S.2.1 dM_bit_0 rfl (lv_at hl 0 rfl) ?_
  refine g_M_M_ir S hK hP dM_bit_1 ?_
  refine lv_iload_n S.1 S.2.1 dM_bit_4 rfl (lv_at hl 1 rfl) ?_
  refine lv_iand S.1 S.2.1 dM_bit_5 ?_
  refine lv_if_eq (tgt := 13) S.1 S.2.1 dM_bit_6 (by decide) (fun g1 => ?_) (fun g1 => ?_)
  · refine lv_iconst (v := 0) S.1 S.2.1 dM_bit_13 (by decide) ?_
    exact rt_z S hr hk hK hP hD hS rfl (Or.inl (⟨g1, rfl, rfl⟩)) dM_bit_14
  · refine lv_iconst (v := 1) S.1 S.2.1 dM_bit_9 (by decide) ?_
    refine lv_goto (tgt := 14) S.1 S.2.1 dM_bit_10 (by decide) ?_
    exact rt_z S hr hk hK hP hD hS rfl (Or.inr (⟨g1, rfl, rfl⟩)) dM_bit_14

set_option maxHeartbeats 4000000 in
set_option maxRecDepth 100000 in
theorem c_M_isAddress (l : Launch) (D : va_G) (a : AR) (sz : Nat) (pc ac lk mq ma mb ir sw io dl ha rd sn md kf kb cn pf : Int32) (co ou : Nat → Int32) (x : Int32) : MI l D (wr a) (tr a) sz yM_isAddress cM_isAddress 1 (some .boolean) 0 [.int x] (pc, ac, lk, mq, ma, mb, ir, sw, io, dl, ha, rd, sn, md, kf, kb, cn, pf, co, ou) (fun r u => ((x < 0) ∧ r = 0 ∧ u = (pc, ac, lk, mq, ma, mb, ir, sw, io, dl, ha, rd, sn, md, kf, kb, cn, pf, co, ou)) ∨ ((¬ x < 0) ∧ (4096 ≤ x) ∧ r = 0 ∧ u = (pc, ac, lk, mq, ma, mb, ir, sw, io, dl, ha, rd, sn, md, kf, kb, cn, pf, co, ou)) ∨ ((¬ x < 0) ∧ (¬ 4096 ≤ x) ∧ r = 1 ∧ u = (pc, ac, lk, mq, ma, mb, ir, sw, io, dl, ha, rd, sn, md, kf, kb, cn, pf, co, ou))) := by
  refine en_i RM rfl (by decide) (Nat.le_of_ble_eq_true rfl) ?_
  intro p e s m below meth c A ls S hr hk hA hN hK hP hD hS hl
  have hl : lv_has ls 1 [(0, .int x)] := hl
  refine lv_iload_n S.1 S.2.1 dM_isAddress_0 rfl (lv_at hl 0 rfl) ?_
  refine lv_if_lt (tgt := 15) S.1 S.2.1 dM_isAddress_1 (by decide) (fun g1 => ?_) (fun g1 => ?_)
  · refine lv_iconst (v := 0) S.1 S.2.1 dM_isAddress_15 (by decide) ?_
    exact rt_z S hr hk hK hP hD hS rfl (Or.inl (⟨g1, rfl, rfl⟩)) dM_isAddress_16
  · refine lv_iload_n S.1 S.2.1 dM_isAddress_4 rfl (lv_at hl 0 rfl) ?_
    refine lv_sipush (v := 4096) S.1 S.2.1 dM_isAddress_5 (by decide) ?_
    refine lv_icmp_ge (tgt := 15) S.1 S.2.1 dM_isAddress_8 (by decide) (fun g2 => ?_) (fun g2 => ?_)
    · refine lv_iconst (v := 0) S.1 S.2.1 dM_isAddress_15 (by decide) ?_
      exact rt_z S hr hk hK hP hD hS rfl (Or.inr (Or.inl (⟨g1, g2, rfl, rfl⟩))) dM_isAddress_16
    · refine lv_iconst (v := 1) S.1 S.2.1 dM_isAddress_11 (by decide) ?_
      refine lv_goto (tgt := 16) S.1 S.2.1 dM_isAddress_12 (by decide) ?_
      exact rt_z S hr hk hK hP hD hS rfl (Or.inr (Or.inr (⟨g1, g2, rfl, rfl⟩))) dM_isAddress_16

set_option maxHeartbeats 4000000 in
set_option maxRecDepth 100000 in
theorem c_M_skip (l : Launch) (D : va_G) (a : AR) (sz : Nat) (pc ac lk mq ma mb ir sw io dl ha rd sn md kf kb cn pf : Int32) (co ou : Nat → Int32) (b : Int32) : MV l D (wr a) (tr a) sz yM_skip cM_skip 2 0 [.ref a.1, .int b] (pc, ac, lk, mq, ma, mb, ir, sw, io, dl, ha, rd, sn, md, kf, kb, cn, pf, co, ou) (fun u => ((b = 0) ∧ u = (pc, ac, lk, mq, ma, mb, ir, sw, io, dl, ha, rd, sn, md, kf, kb, cn, pf, co, ou)) ∨ ((¬ b = 0) ∧ u = (((pc + 1) &&& 4095), ac, lk, mq, ma, mb, ir, sw, io, dl, ha, rd, sn, md, kf, kb, cn, pf, co, ou))) := by
  refine en_v RM rfl (by decide) (Nat.le_of_ble_eq_true rfl) ?_
  intro p e s m below meth c A ls S hr hk hA hN hK hP hD hS hl
  have hl : lv_has ls 2 [(0, .ref a.1), (1, .int b)] := hl
  refine lv_aload_n S.1 S.2.1 dM_skip_0 rfl (lv_at hl 0 rfl) ?_
  refine lv_iload_n S.1 S.2.1 dM_skip_1 rfl (lv_at hl 1 rfl) ?_
  refine lv_if_eq (tgt := 18) S.1 S.2.1 dM_skip_2 (by decide) (fun g1 => ?_) (fun g1 => ?_)
  · refine lv_aload_n S.1 S.2.1 dM_skip_18 rfl (lv_at hl 0 rfl) ?_
    refine g_M_M_pc S hK hP dM_skip_19 ?_
    refine p_M_M_pc S hK hP hD hS dM_skip_22 (fun H locs hP hD hS => ?_)
    exact rt_v S hr hk hK hP hD hS (Or.inl (⟨g1, rfl⟩)) dM_skip_25
  · refine lv_aload_n S.1 S.2.1 dM_skip_5 rfl (lv_at hl 0 rfl) ?_
    refine g_M_M_pc S hK hP dM_skip_6 ?_
    refine lv_iconst (v := 1) S.1 S.2.1 dM_skip_9 (by decide) ?_
    refine lv_iadd S.1 S.2.1 dM_skip_10 ?_
    refine lv_sipush (v := 4095) S.1 S.2.1 dM_skip_11 (by decide) ?_
    refine lv_iand S.1 S.2.1 dM_skip_14 ?_
    refine lv_goto (tgt := 22) S.1 S.2.1 dM_skip_15 (by decide) ?_
    refine p_M_M_pc S hK hP hD hS dM_skip_22 (fun H locs hP hD hS => ?_)
    exact rt_v S hr hk hK hP hD hS (Or.inr (⟨g1, rfl⟩)) dM_skip_25

set_option maxHeartbeats 4000000 in
set_option maxRecDepth 100000 in
theorem c_M_add (l : Launch) (D : va_G) (a : AR) (sz : Nat) (pc ac lk mq ma mb ir sw io dl ha rd sn md kf kb cn pf : Int32) (co ou : Nat → Int32) (v : Int32) : MV l D (wr a) (tr a) sz yM_add cM_add 3 0 [.ref a.1, .int v] (pc, ac, lk, mq, ma, mb, ir, sw, io, dl, ha, rd, sn, md, kf, kb, cn, pf, co, ou) (fun u => (((ac + v) ≤ 4095) ∧ u = (pc, ((ac + v) &&& 4095), lk, mq, ma, mb, ir, sw, io, dl, ha, rd, sn, md, kf, kb, cn, pf, co, ou)) ∨ ((¬ (ac + v) ≤ 4095) ∧ u = (pc, ((ac + v) &&& 4095), (1 - lk), mq, ma, mb, ir, sw, io, dl, ha, rd, sn, md, kf, kb, cn, pf, co, ou))) := by
  refine en_v RM rfl (by decide) (Nat.le_of_ble_eq_true rfl) ?_
  intro p e s m below meth c A ls S hr hk hA hN hK hP hD hS hl
  have hl : lv_has ls 3 [(0, .ref a.1), (1, .int v)] := hl
  refine lv_aload_n S.1 S.2.1 dM_add_0 rfl (lv_at hl 0 rfl) ?_
  refine g_M_M_ac S hK hP dM_add_1 ?_
  refine lv_iload_n S.1 S.2.1 dM_add_4 rfl (lv_at hl 1 rfl) ?_
  refine lv_iadd S.1 S.2.1 dM_add_5 ?_
  refine lv_istore_n S.1 S.2.1 dM_add_6 rfl hl (by decide) rfl (fun ls hl => ?_)
  have hl : lv_has ls 3 [(2, .int (ac + v)), (0, .ref a.1), (1, .int v)] := hl
  refine lv_aload_n S.1 S.2.1 dM_add_7 rfl (lv_at hl 1 rfl) ?_
  refine lv_iload_n S.1 S.2.1 dM_add_8 rfl (lv_at hl 0 rfl) ?_
  refine lv_sipush (v := 4095) S.1 S.2.1 dM_add_9 (by decide) ?_
  refine lv_icmp_le (tgt := 24) S.1 S.2.1 dM_add_12 (by decide) (fun g1 => ?_) (fun g1 => ?_)
  · refine lv_aload_n S.1 S.2.1 dM_add_24 rfl (lv_at hl 1 rfl) ?_
    refine g_M_M_link S hK hP dM_add_25 ?_
    refine p_M_M_link S hK hP hD hS dM_add_28 (fun H locs hP hD hS => ?_)
    refine lv_aload_n S.1 S.2.1 dM_add_31 rfl (lv_at hl 1 rfl) ?_
    refine lv_iload_n S.1 S.2.1 dM_add_32 rfl (lv_at hl 0 rfl) ?_
    refine lv_sipush (v := 4095) S.1 S.2.1 dM_add_33 (by decide) ?_
    refine lv_iand S.1 S.2.1 dM_add_36 ?_
    refine p_M_M_ac S hK hP hD hS dM_add_37 (fun H locs hP hD hS => ?_)
    exact rt_v S hr hk hK hP hD hS (Or.inl (⟨g1, rfl⟩)) dM_add_40
  · refine lv_iconst (v := 1) S.1 S.2.1 dM_add_15 (by decide) ?_
    refine lv_aload_n S.1 S.2.1 dM_add_16 rfl (lv_at hl 1 rfl) ?_
    refine g_M_M_link S hK hP dM_add_17 ?_
    refine lv_isub S.1 S.2.1 dM_add_20 ?_
    refine lv_goto (tgt := 28) S.1 S.2.1 dM_add_21 (by decide) ?_
    refine p_M_M_link S hK hP hD hS dM_add_28 (fun H locs hP hD hS => ?_)
    refine lv_aload_n S.1 S.2.1 dM_add_31 rfl (lv_at hl 1 rfl) ?_
    refine lv_iload_n S.1 S.2.1 dM_add_32 rfl (lv_at hl 0 rfl) ?_
    refine lv_sipush (v := 4095) S.1 S.2.1 dM_add_33 (by decide) ?_
    refine lv_iand S.1 S.2.1 dM_add_36 ?_
    refine p_M_M_ac S hK hP hD hS dM_add_37 (fun H locs hP hD hS => ?_)
    exact rt_v S hr hk hK hP hD hS (Or.inr (⟨g1, rfl⟩)) dM_add_40

set_option maxHeartbeats 4000000 in
set_option maxRecDepth 100000 in
theorem c_M_rotate (l : Launch) (D : va_G) (a : AR) (sz : Nat) (pc ac lk mq ma mb ir sw io dl ha rd sn md kf kb cn pf : Int32) (co ou : Nat → Int32) : MV l D (wr a) (tr a) sz yM_rotate cM_rotate 2 1 [.ref a.1] (pc, ac, lk, mq, ma, mb, ir, sw, io, dl, ha, rd, sn, md, kf, kb, cn, pf, co, ou) (fun u => (((ir &&& 8) = 0) ∧ ((ir &&& 4) = 0) ∧ u = (pc, (((lk <<< ((12 : Int32) &&& 31)) ||| ac) &&& 4095), (((lk <<< ((12 : Int32) &&& 31)) ||| ac) >>> ((12 : Int32) &&& 31)), mq, ma, mb, ir, sw, io, dl, ha, rd, sn, md, kf, kb, cn, pf, co, ou)) ∨ (((ir &&& 8) = 0) ∧ (¬ (ir &&& 4) = 0) ∧ u = (pc, ((((((lk <<< ((12 : Int32) &&& 31)) ||| ac) <<< ((1 : Int32) &&& 31)) &&& 8191) ||| (((lk <<< ((12 : Int32) &&& 31)) ||| ac) >>> ((12 : Int32) &&& 31))) &&& 4095), ((((((lk <<< ((12 : Int32) &&& 31)) ||| ac) <<< ((1 : Int32) &&& 31)) &&& 8191) ||| (((lk <<< ((12 : Int32) &&& 31)) ||| ac) >>> ((12 : Int32) &&& 31))) >>> ((12 : Int32) &&& 31)), mq, ma, mb, ir, sw, io, dl, ha, rd, sn, md, kf, kb, cn, pf, co, ou)) ∨ ((¬ (ir &&& 8) = 0) ∧ ((ir &&& 4) = 0) ∧ u = (pc, (((((lk <<< ((12 : Int32) &&& 31)) ||| ac) >>> ((1 : Int32) &&& 31)) ||| ((((lk <<< ((12 : Int32) &&& 31)) ||| ac) &&& 1) <<< ((12 : Int32) &&& 31))) &&& 4095), (((((lk <<< ((12 : Int32) &&& 31)) ||| ac) >>> ((1 : Int32) &&& 31)) ||| ((((lk <<< ((12 : Int32) &&& 31)) ||| ac) &&& 1) <<< ((12 : Int32) &&& 31))) >>> ((12 : Int32) &&& 31)), mq, ma, mb, ir, sw, io, dl, ha, rd, sn, md, kf, kb, cn, pf, co, ou)) ∨ ((¬ (ir &&& 8) = 0) ∧ (¬ (ir &&& 4) = 0) ∧ u = (pc, ((((((((lk <<< ((12 : Int32) &&& 31)) ||| ac) >>> ((1 : Int32) &&& 31)) ||| ((((lk <<< ((12 : Int32) &&& 31)) ||| ac) &&& 1) <<< ((12 : Int32) &&& 31))) <<< ((1 : Int32) &&& 31)) &&& 8191) ||| (((((lk <<< ((12 : Int32) &&& 31)) ||| ac) >>> ((1 : Int32) &&& 31)) ||| ((((lk <<< ((12 : Int32) &&& 31)) ||| ac) &&& 1) <<< ((12 : Int32) &&& 31))) >>> ((12 : Int32) &&& 31))) &&& 4095), ((((((((lk <<< ((12 : Int32) &&& 31)) ||| ac) >>> ((1 : Int32) &&& 31)) ||| ((((lk <<< ((12 : Int32) &&& 31)) ||| ac) &&& 1) <<< ((12 : Int32) &&& 31))) <<< ((1 : Int32) &&& 31)) &&& 8191) ||| (((((lk <<< ((12 : Int32) &&& 31)) ||| ac) >>> ((1 : Int32) &&& 31)) ||| ((((lk <<< ((12 : Int32) &&& 31)) ||| ac) &&& 1) <<< ((12 : Int32) &&& 31))) >>> ((12 : Int32) &&& 31))) >>> ((12 : Int32) &&& 31)), mq, ma, mb, ir, sw, io, dl, ha, rd, sn, md, kf, kb, cn, pf, co, ou))) := by
  refine en_v RM rfl (by decide) (Nat.le_of_ble_eq_true rfl) ?_
  intro p e s m below meth c A ls S hr hk hA hN hK hP hD hS hl
  have hl : lv_has ls 2 [(0, .ref a.1)] := hl
  refine lv_aload_n S.1 S.2.1 dM_rotate_0 rfl (lv_at hl 0 rfl) ?_
  refine g_M_M_link S hK hP dM_rotate_1 ?_
  refine lv_bipush (v := 12) S.1 S.2.1 dM_rotate_4 (by decide) ?_
  refine lv_ishl S.1 S.2.1 dM_rotate_6 ?_
  refine lv_aload_n S.1 S.2.1 dM_rotate_7 rfl (lv_at hl 0 rfl) ?_
  refine g_M_M_ac S hK hP dM_rotate_8 ?_
  refine lv_ior S.1 S.2.1 dM_rotate_11 ?_
  refine lv_istore_n S.1 S.2.1 dM_rotate_12 rfl hl (by decide) rfl (fun ls hl => ?_)
  have hl : lv_has ls 2 [(1, .int ((lk <<< ((12 : Int32) &&& 31)) ||| ac)), (0, .ref a.1)] := hl
  refine lv_aload_n S.1 S.2.1 dM_rotate_13 rfl (lv_at hl 1 rfl) ?_
  refine lv_bipush (v := 8) S.1 S.2.1 dM_rotate_14 (by decide) ?_
  refine cl_i (As := [.int 8]) (rest := []) S hN hK hP hD hS hA hl.1 (c_M_bit l D a _ pc ac lk mq ma mb ir sw io dl ha rd sn md kf kb cn pf co ou 8) k_M_83 (rc_M hK hP) ⟨by decide, by decide⟩ rfl rfl (Nat.le_of_ble_eq_true rfl) ⟨Nat.le_refl _, Nat.le_refl _⟩ dM_rotate_16 (fun r u H locs hw hP hD hS => ?_)
  obtain ⟨g1, rfl, rfl⟩ | ⟨g2, rfl, rfl⟩ := hw
  · refine lv_if_eq (tgt := 33) S.1 S.2.1 dM_rotate_19 (by decide) (fun _ => ?_) (fun g3 => absurd (by decide) g3)
    refine lv_aload_n S.1 S.2.1 dM_rotate_33 rfl (lv_at hl 1 rfl) ?_
    refine lv_iconst (v := 4) S.1 S.2.1 dM_rotate_34 (by decide) ?_
    refine cl_i (As := [.int 4]) (rest := []) S hN hK hP hD hS hA hl.1 (c_M_bit l D a _ pc ac lk mq ma mb ir sw io dl ha rd sn md kf kb cn pf co ou 4) k_M_83 (rc_M hK hP) ⟨by decide, by decide⟩ rfl rfl (Nat.le_of_ble_eq_true rfl) ⟨Nat.le_refl _, Nat.le_refl _⟩ dM_rotate_35 (fun r u H locs hw hP hD hS => ?_)
    obtain ⟨g4, rfl, rfl⟩ | ⟨g5, rfl, rfl⟩ := hw
    · refine lv_if_eq (tgt := 54) S.1 S.2.1 dM_rotate_38 (by decide) (fun _ => ?_) (fun g6 => absurd (by decide) g6)
      refine lv_aload_n S.1 S.2.1 dM_rotate_54 rfl (lv_at hl 1 rfl) ?_
      refine lv_iload_n S.1 S.2.1 dM_rotate_55 rfl (lv_at hl 0 rfl) ?_
      refine lv_bipush (v := 12) S.1 S.2.1 dM_rotate_56 (by decide) ?_
      refine lv_ishr S.1 S.2.1 dM_rotate_58 ?_
      refine p_M_M_link S hK hP hD hS dM_rotate_59 (fun H locs hP hD hS => ?_)
      refine lv_aload_n S.1 S.2.1 dM_rotate_62 rfl (lv_at hl 1 rfl) ?_
      refine lv_iload_n S.1 S.2.1 dM_rotate_63 rfl (lv_at hl 0 rfl) ?_
      refine lv_sipush (v := 4095) S.1 S.2.1 dM_rotate_64 (by decide) ?_
      refine lv_iand S.1 S.2.1 dM_rotate_67 ?_
      refine p_M_M_ac S hK hP hD hS dM_rotate_68 (fun H locs hP hD hS => ?_)
      exact rt_v S hr hk hK hP hD hS (Or.inl (⟨g1, g4, rfl⟩)) dM_rotate_71
    · refine lv_if_eq (tgt := 54) S.1 S.2.1 dM_rotate_38 (by decide) (fun g7 => absurd g7 (by decide)) (fun _ => ?_)
      refine lv_iload_n S.1 S.2.1 dM_rotate_41 rfl (lv_at hl 0 rfl) ?_
      refine lv_iconst (v := 1) S.1 S.2.1 dM_rotate_42 (by decide) ?_
      refine lv_ishl S.1 S.2.1 dM_rotate_43 ?_
      refine lv_sipush (v := 8191) S.1 S.2.1 dM_rotate_44 (by decide) ?_
      refine lv_iand S.1 S.2.1 dM_rotate_47 ?_
      refine lv_iload_n S.1 S.2.1 dM_rotate_48 rfl (lv_at hl 0 rfl) ?_
      refine lv_bipush (v := 12) S.1 S.2.1 dM_rotate_49 (by decide) ?_
      refine lv_ishr S.1 S.2.1 dM_rotate_51 ?_
      refine lv_ior S.1 S.2.1 dM_rotate_52 ?_
      refine lv_istore_n S.1 S.2.1 dM_rotate_53 rfl hl (by decide) rfl (fun ls hl => ?_)
      have hl : lv_has ls 2 [(1, .int (((((lk <<< ((12 : Int32) &&& 31)) ||| ac) <<< ((1 : Int32) &&& 31)) &&& 8191) ||| (((lk <<< ((12 : Int32) &&& 31)) ||| ac) >>> ((12 : Int32) &&& 31)))), (0, .ref a.1)] := hl
      refine lv_aload_n S.1 S.2.1 dM_rotate_54 rfl (lv_at hl 1 rfl) ?_
      refine lv_iload_n S.1 S.2.1 dM_rotate_55 rfl (lv_at hl 0 rfl) ?_
      refine lv_bipush (v := 12) S.1 S.2.1 dM_rotate_56 (by decide) ?_
      refine lv_ishr S.1 S.2.1 dM_rotate_58 ?_
      refine p_M_M_link S hK hP hD hS dM_rotate_59 (fun H locs hP hD hS => ?_)
      refine lv_aload_n S.1 S.2.1 dM_rotate_62 rfl (lv_at hl 1 rfl) ?_
      refine lv_iload_n S.1 S.2.1 dM_rotate_63 rfl (lv_at hl 0 rfl) ?_
      refine lv_sipush (v := 4095) S.1 S.2.1 dM_rotate_64 (by decide) ?_
      refine lv_iand S.1 S.2.1 dM_rotate_67 ?_
      refine p_M_M_ac S hK hP hD hS dM_rotate_68 (fun H locs hP hD hS => ?_)
      exact rt_v S hr hk hK hP hD hS (Or.inr (Or.inl (⟨g1, g5, rfl⟩))) dM_rotate_71
  · refine lv_if_eq (tgt := 33) S.1 S.2.1 dM_rotate_19 (by decide) (fun g8 => absurd g8 (by decide)) (fun _ => ?_)
    refine lv_iload_n S.1 S.2.1 dM_rotate_22 rfl (lv_at hl 0 rfl) ?_
    refine lv_iconst (v := 1) S.1 S.2.1 dM_rotate_23 (by decide) ?_
    refine lv_ishr S.1 S.2.1 dM_rotate_24 ?_
    refine lv_iload_n S.1 S.2.1 dM_rotate_25 rfl (lv_at hl 0 rfl) ?_
    refine lv_iconst (v := 1) S.1 S.2.1 dM_rotate_26 (by decide) ?_
    refine lv_iand S.1 S.2.1 dM_rotate_27 ?_
    refine lv_bipush (v := 12) S.1 S.2.1 dM_rotate_28 (by decide) ?_
    refine lv_ishl S.1 S.2.1 dM_rotate_30 ?_
    refine lv_ior S.1 S.2.1 dM_rotate_31 ?_
    refine lv_istore_n S.1 S.2.1 dM_rotate_32 rfl hl (by decide) rfl (fun ls hl => ?_)
    have hl : lv_has ls 2 [(1, .int ((((lk <<< ((12 : Int32) &&& 31)) ||| ac) >>> ((1 : Int32) &&& 31)) ||| ((((lk <<< ((12 : Int32) &&& 31)) ||| ac) &&& 1) <<< ((12 : Int32) &&& 31)))), (0, .ref a.1)] := hl
    refine lv_aload_n S.1 S.2.1 dM_rotate_33 rfl (lv_at hl 1 rfl) ?_
    refine lv_iconst (v := 4) S.1 S.2.1 dM_rotate_34 (by decide) ?_
    refine cl_i (As := [.int 4]) (rest := []) S hN hK hP hD hS hA hl.1 (c_M_bit l D a _ pc ac lk mq ma mb ir sw io dl ha rd sn md kf kb cn pf co ou 4) k_M_83 (rc_M hK hP) ⟨by decide, by decide⟩ rfl rfl (Nat.le_of_ble_eq_true rfl) ⟨Nat.le_refl _, Nat.le_refl _⟩ dM_rotate_35 (fun r u H locs hw hP hD hS => ?_)
    obtain ⟨g9, rfl, rfl⟩ | ⟨g10, rfl, rfl⟩ := hw
    · refine lv_if_eq (tgt := 54) S.1 S.2.1 dM_rotate_38 (by decide) (fun _ => ?_) (fun g11 => absurd (by decide) g11)
      refine lv_aload_n S.1 S.2.1 dM_rotate_54 rfl (lv_at hl 1 rfl) ?_
      refine lv_iload_n S.1 S.2.1 dM_rotate_55 rfl (lv_at hl 0 rfl) ?_
      refine lv_bipush (v := 12) S.1 S.2.1 dM_rotate_56 (by decide) ?_
      refine lv_ishr S.1 S.2.1 dM_rotate_58 ?_
      refine p_M_M_link S hK hP hD hS dM_rotate_59 (fun H locs hP hD hS => ?_)
      refine lv_aload_n S.1 S.2.1 dM_rotate_62 rfl (lv_at hl 1 rfl) ?_
      refine lv_iload_n S.1 S.2.1 dM_rotate_63 rfl (lv_at hl 0 rfl) ?_
      refine lv_sipush (v := 4095) S.1 S.2.1 dM_rotate_64 (by decide) ?_
      refine lv_iand S.1 S.2.1 dM_rotate_67 ?_
      refine p_M_M_ac S hK hP hD hS dM_rotate_68 (fun H locs hP hD hS => ?_)
      exact rt_v S hr hk hK hP hD hS (Or.inr (Or.inr (Or.inl (⟨g2, g9, rfl⟩)))) dM_rotate_71
    · refine lv_if_eq (tgt := 54) S.1 S.2.1 dM_rotate_38 (by decide) (fun g12 => absurd g12 (by decide)) (fun _ => ?_)
      refine lv_iload_n S.1 S.2.1 dM_rotate_41 rfl (lv_at hl 0 rfl) ?_
      refine lv_iconst (v := 1) S.1 S.2.1 dM_rotate_42 (by decide) ?_
      refine lv_ishl S.1 S.2.1 dM_rotate_43 ?_
      refine lv_sipush (v := 8191) S.1 S.2.1 dM_rotate_44 (by decide) ?_
      refine lv_iand S.1 S.2.1 dM_rotate_47 ?_
      refine lv_iload_n S.1 S.2.1 dM_rotate_48 rfl (lv_at hl 0 rfl) ?_
      refine lv_bipush (v := 12) S.1 S.2.1 dM_rotate_49 (by decide) ?_
      refine lv_ishr S.1 S.2.1 dM_rotate_51 ?_
      refine lv_ior S.1 S.2.1 dM_rotate_52 ?_
      refine lv_istore_n S.1 S.2.1 dM_rotate_53 rfl hl (by decide) rfl (fun ls hl => ?_)
      have hl : lv_has ls 2 [(1, .int (((((((lk <<< ((12 : Int32) &&& 31)) ||| ac) >>> ((1 : Int32) &&& 31)) ||| ((((lk <<< ((12 : Int32) &&& 31)) ||| ac) &&& 1) <<< ((12 : Int32) &&& 31))) <<< ((1 : Int32) &&& 31)) &&& 8191) ||| (((((lk <<< ((12 : Int32) &&& 31)) ||| ac) >>> ((1 : Int32) &&& 31)) ||| ((((lk <<< ((12 : Int32) &&& 31)) ||| ac) &&& 1) <<< ((12 : Int32) &&& 31))) >>> ((12 : Int32) &&& 31)))), (0, .ref a.1)] := hl
      refine lv_aload_n S.1 S.2.1 dM_rotate_54 rfl (lv_at hl 1 rfl) ?_
      refine lv_iload_n S.1 S.2.1 dM_rotate_55 rfl (lv_at hl 0 rfl) ?_
      refine lv_bipush (v := 12) S.1 S.2.1 dM_rotate_56 (by decide) ?_
      refine lv_ishr S.1 S.2.1 dM_rotate_58 ?_
      refine p_M_M_link S hK hP hD hS dM_rotate_59 (fun H locs hP hD hS => ?_)
      refine lv_aload_n S.1 S.2.1 dM_rotate_62 rfl (lv_at hl 1 rfl) ?_
      refine lv_iload_n S.1 S.2.1 dM_rotate_63 rfl (lv_at hl 0 rfl) ?_
      refine lv_sipush (v := 4095) S.1 S.2.1 dM_rotate_64 (by decide) ?_
      refine lv_iand S.1 S.2.1 dM_rotate_67 ?_
      refine p_M_M_ac S hK hP hD hS dM_rotate_68 (fun H locs hP hD hS => ?_)
      exact rt_v S hr hk hK hP hD hS (Or.inr (Or.inr (Or.inr (⟨g2, g10, rfl⟩)))) dM_rotate_71

set_option maxHeartbeats 4000000 in
set_option maxRecDepth 100000 in
theorem c_M_flags (l : Launch) (D : va_G) (a : AR) (sz : Nat) (pc ac lk mq ma mb ir sw io dl ha rd sn md kf kb cn pf : Int32) (co ou : Nat → Int32) : MI l D (wr a) (tr a) sz yM_flags cM_flags 1 (some .int) 0 [.ref a.1] (pc, ac, lk, mq, ma, mb, ir, sw, io, dl, ha, rd, sn, md, kf, kb, cn, pf, co, ou) (fun r u => r = (((((if io = 0 then 0 else 1) + (if dl = 0 then 0 else 2)) + (if ha = 0 then 0 else 4)) + (if kf = 0 then 0 else 8)) + (if pf = 0 then 0 else 16)) ∧ u = (pc, ac, lk, mq, ma, mb, ir, sw, io, dl, ha, rd, sn, md, kf, kb, cn, pf, co, ou)) := by
  refine en_i RM rfl (by decide) (Nat.le_of_ble_eq_true rfl) ?_
  intro p e s m below meth c A ls S hr hk hA hN hK hP hD hS hl
  have hl : lv_has ls 1 [(0, .ref a.1)] := hl
  refine lv_aload_n S.1 S.2.1 dM_flags_0 rfl (lv_at hl 0 rfl) ?_
  refine g_M_M_ion S hK hP dM_flags_1 ?_
  refine dm_eq (tgt := 11) (j := 12) (g := 8) S.1 S.2.1 dM_flags_4 (by decide) (fun k => lv_iconst (v := 1) S.1 S.2.1 dM_flags_7 (by decide) k) dM_flags_8 (by decide) (fun k => lv_iconst (v := 0) S.1 S.2.1 dM_flags_11 (by decide) k) ?_
  refine lv_aload_n S.1 S.2.1 dM_flags_12 rfl (lv_at hl 0 rfl) ?_
  refine g_M_M_delay S hK hP dM_flags_13 ?_
  refine dm_eq (tgt := 23) (j := 24) (g := 20) S.1 S.2.1 dM_flags_16 (by decide) (fun k => lv_iconst (v := 2) S.1 S.2.1 dM_flags_19 (by decide) k) dM_flags_20 (by decide) (fun k => lv_iconst (v := 0) S.1 S.2.1 dM_flags_23 (by decide) k) ?_
  refine lv_iadd S.1 S.2.1 dM_flags_24 ?_
  refine lv_aload_n S.1 S.2.1 dM_flags_25 rfl (lv_at hl 0 rfl) ?_
  refine g_M_M_halted S hK hP dM_flags_26 ?_
  refine dm_eq (tgt := 36) (j := 37) (g := 33) S.1 S.2.1 dM_flags_29 (by decide) (fun k => lv_iconst (v := 4) S.1 S.2.1 dM_flags_32 (by decide) k) dM_flags_33 (by decide) (fun k => lv_iconst (v := 0) S.1 S.2.1 dM_flags_36 (by decide) k) ?_
  refine lv_iadd S.1 S.2.1 dM_flags_37 ?_
  refine lv_aload_n S.1 S.2.1 dM_flags_38 rfl (lv_at hl 0 rfl) ?_
  refine g_M_M_keyFlag S hK hP dM_flags_39 ?_
  refine dm_eq (tgt := 50) (j := 51) (g := 47) S.1 S.2.1 dM_flags_42 (by decide) (fun k => lv_bipush (v := 8) S.1 S.2.1 dM_flags_45 (by decide) k) dM_flags_47 (by decide) (fun k => lv_iconst (v := 0) S.1 S.2.1 dM_flags_50 (by decide) k) ?_
  refine lv_iadd S.1 S.2.1 dM_flags_51 ?_
  refine lv_aload_n S.1 S.2.1 dM_flags_52 rfl (lv_at hl 0 rfl) ?_
  refine g_M_M_printFlag S hK hP dM_flags_53 ?_
  refine dm_eq (tgt := 64) (j := 65) (g := 61) S.1 S.2.1 dM_flags_56 (by decide) (fun k => lv_bipush (v := 16) S.1 S.2.1 dM_flags_59 (by decide) k) dM_flags_61 (by decide) (fun k => lv_iconst (v := 0) S.1 S.2.1 dM_flags_64 (by decide) k) ?_
  refine lv_iadd S.1 S.2.1 dM_flags_65 ?_
  exact rt_i S hr hk hK hP hD hS (⟨rfl, rfl⟩) dM_flags_66
